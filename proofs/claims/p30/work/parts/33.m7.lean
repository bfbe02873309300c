set_option maxRecDepth 20000 in
set_option maxHeartbeats 4000000 in
theorem cM_readsHotel (w : zW) (b : Int) (n : Int) (c : Int → Int) (hb0 : 0 ≤ b) (hn0 : 0 ≤ n) (hn1 : n ≤ 60) (hbn : b + n ≤ 240) (hc : ∀ q, w.1 50 (b + q) = c q) : zC mM_readsHotel 3 [zR 33, zI b, zI n] w (zrI fun a w' => zFr5 w w' ∧ ((a = 1 ∧ zTx c n = (true, n, w'.1 33 13, w'.1 33 14) ∧ zI2 w' b c n ∧ 2 ≤ w'.1 33 14) ∨ (a = 0 ∧ zFl c n (w'.1 33 10)))) := by
  refine zC.of (by decide +kernel) (Nat.le_of_ble_eq_true rfl) ?_
  show zM mM_readsHotel (zZm 3 _) 0 [(0, zR 33), (1, zI b), (2, zI n)] [] w
  refine r_aload_n 0 0 dM_readsHotel_0 rfl rfl ?_
  refine r_iconst dM_readsHotel_1 ?_
  refine r_putI (k := 10) fX7 rfl rfl (by decide) kw_515 rfl rfl (by decide +kernel) 10 rfl dM_readsHotel_2 rfl (by omega) (by omega) (fun w_2 ew_2 => ?_)
  refine r_aload_n 0 0 dM_readsHotel_5 rfl rfl ?_
  refine r_iconst dM_readsHotel_6 ?_
  refine r_putI (k := 13) fX7 rfl rfl (by decide) kw_518 rfl rfl (by decide +kernel) 13 rfl dM_readsHotel_7 rfl (by omega) (by omega) (fun w_7 ew_7 => ?_)
  refine r_aload_n 0 0 dM_readsHotel_10 rfl rfl ?_
  refine r_iconst dM_readsHotel_11 ?_
  refine r_putI (k := 14) fX7 rfl rfl (by decide) kw_519 rfl rfl (by decide +kernel) 14 rfl dM_readsHotel_12 rfl (by omega) (by omega) (fun w_12 ew_12 => ?_)
  have hT0 : zRS w_12 b c 0 := ⟨fun q => by rw [ew_12, zput_i _ _ _ _ (by decide), ew_7, zput_i _ _ _ _ (by decide), ew_2, zput_i _ _ _ _ (by decide)]; exact hc q, by rw [ew_12, zput_k _ _ (by decide), ew_7, zput_k _ _ (by decide), ew_2, zput_s]⟩
  refine r_aload_n 0 0 dM_readsHotel_15 rfl rfl ?_
  refine r_iload_n 1 1 dM_readsHotel_16 rfl rfl ?_
  refine r_iload_n 2 2 dM_readsHotel_17 rfl rfl ?_
  refine r_cVI (cM_codeAt w_12 b n c 0 (by omega) (by omega) (by omega) (by omega) hT0) qM_codeAt rfl kw_651 rfl rfl dM_readsHotel_18 (st0 := [zI n, zI b, zR 33]) (st := []) rfl ⟨Nat.le_of_ble_eq_true rfl, Nat.le_of_ble_eq_true rfl⟩ ⟨Nat.le_of_ble_eq_true rfl, Nat.le_of_ble_eq_true rfl⟩ (Nat.le_of_ble_eq_true rfl) (fun a_18 w_18 h_18 ok_18 => ?_)
  obtain ⟨rfl, h_18⟩ := h_18
  have h18 := h_18.1
  refine r_bipush dM_readsHotel_21 (by decide) ?_
  have J_31 : ∀ (z0 : Int) (hz0 : ((0 < n ∧ c 0 = 122) ∧ z0 = 1) ∨ (¬ (0 < n ∧ c 0 = 122) ∧ z0 = 0)), zM mM_readsHotel (zZm 3 (zrI fun a w' => zFr5 w w' ∧ ((a = 1 ∧ zTx c n = (true, n, w'.1 33 13, w'.1 33 14) ∧ zI2 w' b c n ∧ 2 ≤ w'.1 33 14) ∨ (a = 0 ∧ zFl c n (w'.1 33 10))))) 31 [(0, zR 33), (1, zI b), (2, zI n)] [zI z0] w_12 := by
    intro z0 hz0
    refine r_istore_n (ls' := [(3, zI z0), (0, zR 33), (1, zI b), (2, zI n)]) 3 dM_readsHotel_31 rfl (by decide) rfl ?_
    refine r_aload_n 0 1 dM_readsHotel_32 rfl rfl ?_
    refine r_dup dM_readsHotel_33 rfl ?_
    refine r_getI (k := 10) fX7 rfl rfl (by decide) kw_515 rfl 10 rfl dM_readsHotel_34 rfl (fun y_34 ey_34 ly_34 uy_34 => ?_)
    rw [ew_12, zput_k (k := 14) (k' := 10) _ _ (by decide)] at ey_34
    rw [ew_7, zput_k (k := 13) (k' := 10) _ _ (by decide)] at ey_34
    rw [ew_2, zput_s] at ey_34
    refine r_iload_n 3 0 dM_readsHotel_37 rfl rfl ?_
    have J_46 : ∀ (t0 : Int) (ht0 : t0 = z0), zM mM_readsHotel (zZm 3 (zrI fun a w' => zFr5 w w' ∧ ((a = 1 ∧ zTx c n = (true, n, w'.1 33 13, w'.1 33 14) ∧ zI2 w' b c n ∧ 2 ≤ w'.1 33 14) ∨ (a = 0 ∧ zFl c n (w'.1 33 10))))) 46 [(3, zI z0), (0, zR 33), (1, zI b), (2, zI n)] [zI t0, zI y_34, zR 33] w_12 := by
      intro t0 ht0
      refine r_iadd dM_readsHotel_46 ?_
      refine r_putI (k := 10) fX7 rfl rfl (by decide) kw_515 rfl rfl (by decide +kernel) 10 rfl dM_readsHotel_47 rfl (by omega) (by omega) (fun w_47 ew_47 => ?_)
      have hT1 : zRS w_47 b c z0 := hT0.fr (fun q => by rw [ew_47, zput_i _ _ _ _ (by decide)]) (by rw [ew_47, zput_s]; omega)
      refine r_aload_n 0 1 dM_readsHotel_50 rfl rfl ?_
      refine r_iload_n 3 0 dM_readsHotel_51 rfl rfl ?_
      refine r_if_eq 66 dM_readsHotel_52 (by decide) ⟨by omega, by omega⟩ (fun c_52 => ?_) (fun c_52 => ?_)
      · refine r_bipush dM_readsHotel_66 (by decide) ?_
        refine r_putI (k := 11) fX7 rfl rfl (by decide) kw_516 rfl rfl (by decide +kernel) 11 rfl dM_readsHotel_68 rfl (by omega) (by omega) (fun w_68 ew_68 => ?_)
        refine r_aload_n 0 1 dM_readsHotel_71 rfl rfl ?_
        refine r_aload_n 0 1 dM_readsHotel_72 rfl rfl ?_
        refine r_getI (k := 11) fX7 rfl rfl (by decide) kw_516 rfl 11 rfl dM_readsHotel_73 rfl (fun y_73 ey_73 ly_73 uy_73 => ?_)
        rw [ew_68, zput_s] at ey_73
        refine r_if_lt 91 dM_readsHotel_76 (by decide) ⟨by omega, by omega⟩ (fun c_76 => ?_) (fun c_76 => ?_)
        · refine r_bipush dM_readsHotel_91 (by decide) ?_
          refine r_putI (k := 12) fX7 rfl rfl (by decide) kw_517 rfl rfl (by decide +kernel) 12 rfl dM_readsHotel_93 rfl (by omega) (by omega) (fun w_93 ew_93 => ?_)
          refine r_aload_n 0 1 dM_readsHotel_96 rfl rfl ?_
          refine r_getI (k := 12) fX7 rfl rfl (by decide) kw_517 rfl 12 rfl dM_readsHotel_97 rfl (fun y_97 ey_97 ly_97 uy_97 => ?_)
          rw [ew_93, zput_s] at ey_97
          refine r_if_le 107 dM_readsHotel_100 (by decide) ⟨by omega, by omega⟩ (fun c_100 => ?_) (fun c_100 => ?_)
          · refine r_iconst dM_readsHotel_107 ?_
            refine r_istore_n (ls' := [(3, zI 0), (0, zR 33), (1, zI b), (2, zI n)]) 3 dM_readsHotel_108 rfl (by decide) rfl ?_
            have L_109 : ∀ (n_109 : Nat) (ok : Int) (wl : zW) (hfr : zFr5 w wl) (hk4 : 0 ≤ wl.1 33 13 ∧ wl.1 33 13 ≤ 4) (hI : (ok = 1 ∧ zI1 wl b c n) ∨ (ok = 0 ∧ zFl c n (wl.1 33 10))), 6 * ok + 4 - wl.1 33 13 < (n_109 : Int) → zM mM_readsHotel (zZm 3 (zrI fun a w' => zFr5 w w' ∧ ((a = 1 ∧ zTx c n = (true, n, w'.1 33 13, w'.1 33 14) ∧ zI2 w' b c n ∧ 2 ≤ w'.1 33 14) ∨ (a = 0 ∧ zFl c n (w'.1 33 10))))) 109 [(3, zI ok), (0, zR 33), (1, zI b), (2, zI n)] [] wl := by
              intro n_109
              induction n_109 with
              | zero => intro ok wl hfr hk4 hI hm_109; exfalso; omega
              | succ n_109 ih_109 =>
                intro ok wl hfr hk4 hI hm_109
                refine r_ok (fun hOl => ?_)
                refine r_iload_n 3 0 dM_readsHotel_109 rfl rfl ?_
                refine r_if_eq 141 dM_readsHotel_110 (by decide) ⟨by omega, by omega⟩ (fun c_110 => ?_) (fun c_110 => ?_)
                · have L_141 : ∀ (n_141 : Nat) (ok : Int) (wm : zW) (hfm : zFr5 w wm) (hj6 : 0 ≤ wm.1 33 14 ∧ wm.1 33 14 ≤ 6) (hJ : (ok = 1 ∧ zI2 wm b c n) ∨ (ok = 0 ∧ zFl c n (wm.1 33 10))), 8 * ok + 6 - wm.1 33 14 < (n_141 : Int) → zM mM_readsHotel (zZm 3 (zrI fun a w' => zFr5 w w' ∧ ((a = 1 ∧ zTx c n = (true, n, w'.1 33 13, w'.1 33 14) ∧ zI2 w' b c n ∧ 2 ≤ w'.1 33 14) ∨ (a = 0 ∧ zFl c n (w'.1 33 10))))) 141 [(3, zI ok), (0, zR 33), (1, zI b), (2, zI n)] [] wm := by
                    intro n_141
                    induction n_141 with
                    | zero => intro ok wm hfm hj6 hJ hm_141; exfalso; omega
                    | succ n_141 ih_141 =>
                      intro ok wm hfm hj6 hJ hm_141
                      refine r_ok (fun hOm => ?_)
                      refine r_iload_n 3 0 dM_readsHotel_141 rfl rfl ?_
                      refine r_if_eq 171 dM_readsHotel_142 (by decide) ⟨by omega, by omega⟩ (fun c_142 => ?_) (fun c_142 => ?_)
                      · refine r_iload_n 3 0 dM_readsHotel_171 rfl rfl ?_
                        refine r_zret rfl (by omega) dM_readsHotel_172 ⟨_, rfl, ?_⟩
                        exact ⟨hfm, by first | (refine Or.inr ?_; rcases hJ with q | q; (exfalso; omega); exact q) | exact Or.inl ⟨by omega, hI2.fin (by omega) hj6.2 (by omega), hI2, by omega⟩⟩
                      · obtain ⟨_, a1, a2, a3, a4, a5, a6, a7, a8, a9, a10⟩ : ok = 1 ∧ zI2 wm b c n := (by rcases hJ with q | q; exact q; exact absurd q.1 (by omega))
                        have hI2 : zI2 wm b c n := ⟨a1, a2, a3, a4, a5, a6, a7, a8, a9, a10⟩
                        have hp10 := a2.2
                        refine r_aload_n 0 1 dM_readsHotel_145 rfl rfl ?_
                        refine r_getI (k := 14) fX7 rfl rfl (by decide) kw_519 rfl 14 rfl dM_readsHotel_146 rfl (fun y_146 ey_146 ly_146 uy_146 => ?_)
                        refine r_iconst dM_readsHotel_149 ?_
                        refine r_ic_lt 161 dM_readsHotel_150 (by decide) ⟨by omega, by omega⟩ ⟨by omega, by omega⟩ (fun c_150 => ?_) (fun c_150 => ?_)
                        · refine r_aload_n 0 1 dM_readsHotel_161 rfl rfl ?_
                          refine r_iload_n 1 2 dM_readsHotel_162 rfl rfl ?_
                          refine r_iload_n 2 3 dM_readsHotel_163 rfl rfl ?_
                          refine r_cVI (cM_readsGuest wm b n c (wm.1 33 13) (wm.1 33 14) (by omega) (by omega) (by omega) (by omega) a2 rfl (by omega) (by omega) rfl (by omega) (by omega)) qM_readsGuest rfl kw_663 rfl rfl dM_readsHotel_164 (st0 := [zI n, zI b, zR 33]) (st := []) rfl ⟨Nat.le_of_ble_eq_true rfl, Nat.le_of_ble_eq_true rfl⟩ ⟨Nat.le_of_ble_eq_true rfl, Nat.le_of_ble_eq_true rfl⟩ (Nat.le_of_ble_eq_true rfl) (fun a_164 w_164 h_164 ok_164 => ?_)
                          have hj14 : (a_164 = 1 ∧ w_164.1 33 14 = wm.1 33 14 + 1) ∨ (a_164 = 0 ∧ w_164.1 33 14 = wm.1 33 14) := (by rcases h_164 with ⟨q0, q1, q2, q3, q4, q5, q6, q7⟩ | ⟨q0, q1, q2⟩; exact Or.inl ⟨q0, q6⟩; exact Or.inr ⟨q0, q1 _ _ (by omega)⟩)
                          have hj164 : wm.1 33 14 < 6 ∨ a_164 = 0 := (by rcases h_164 with ⟨q0, q1, q2, q3, q4, q5, q6, q7⟩ | ⟨q0, q1, q2⟩; exact Or.inl q1.1; exact Or.inr q0)
                          refine r_istore_n (ls' := [(3, zI a_164), (0, zR 33), (1, zI b), (2, zI n)]) 3 dM_readsHotel_167 rfl (by decide) rfl ?_
                          refine r_goto 141 dM_readsHotel_168 (by decide) ?_
                          exact ih_141 a_164 w_164 (hfm.trans (by rcases h_164 with ⟨q0, q1, q2, q3, q4, q5, q6, q7⟩ | ⟨q0, q1, q2⟩; exact (fun i j z1 z2 => by rw [q7 i j (by omega), if_neg (by omega), if_neg (by omega), if_neg (by omega)]); exact (fun i j z1 z2 => q1 i j (by omega)))) (by omega) (by rcases h_164 with ⟨q0, q1, q2, q3, q4, q5, q6, q7⟩ | ⟨q0, q1, q2⟩; exact Or.inl ⟨q0, hI2.step rfl rfl hj6.1 q1 q2 q3 q4 q5 q6 q7⟩; exact Or.inr ⟨q0, zFl_g a1 a5 hj6.2 a6 (by omega) q2⟩) (by omega)
                        · refine r_aload_n 0 1 dM_readsHotel_153 rfl rfl ?_
                          refine r_getI (k := 10) fX7 rfl rfl (by decide) kw_515 rfl 10 rfl dM_readsHotel_154 rfl (fun y_154 ey_154 ly_154 uy_154 => ?_)
                          refine r_iload_n 2 3 dM_readsHotel_157 rfl rfl ?_
                          refine r_ic_ge 171 dM_readsHotel_158 (by decide) ⟨by omega, by omega⟩ ⟨by omega, by omega⟩ (fun c_158 => ?_) (fun c_158 => ?_)
                          · refine r_iload_n 3 0 dM_readsHotel_171 rfl rfl ?_
                            refine r_zret rfl (by omega) dM_readsHotel_172 ⟨_, rfl, ?_⟩
                            exact ⟨hfm, by first | (refine Or.inr ?_; rcases hJ with q | q; (exfalso; omega); exact q) | exact Or.inl ⟨by omega, hI2.fin (by omega) hj6.2 (by omega), hI2, by omega⟩⟩
                          · refine r_aload_n 0 1 dM_readsHotel_161 rfl rfl ?_
                            refine r_iload_n 1 2 dM_readsHotel_162 rfl rfl ?_
                            refine r_iload_n 2 3 dM_readsHotel_163 rfl rfl ?_
                            refine r_cVI (cM_readsGuest wm b n c (wm.1 33 13) (wm.1 33 14) (by omega) (by omega) (by omega) (by omega) a2 rfl (by omega) (by omega) rfl (by omega) (by omega)) qM_readsGuest rfl kw_663 rfl rfl dM_readsHotel_164 (st0 := [zI n, zI b, zR 33]) (st := []) rfl ⟨Nat.le_of_ble_eq_true rfl, Nat.le_of_ble_eq_true rfl⟩ ⟨Nat.le_of_ble_eq_true rfl, Nat.le_of_ble_eq_true rfl⟩ (Nat.le_of_ble_eq_true rfl) (fun a_164 w_164 h_164 ok_164 => ?_)
                            have hj14 : (a_164 = 1 ∧ w_164.1 33 14 = wm.1 33 14 + 1) ∨ (a_164 = 0 ∧ w_164.1 33 14 = wm.1 33 14) := (by rcases h_164 with ⟨q0, q1, q2, q3, q4, q5, q6, q7⟩ | ⟨q0, q1, q2⟩; exact Or.inl ⟨q0, q6⟩; exact Or.inr ⟨q0, q1 _ _ (by omega)⟩)
                            have hj164 : wm.1 33 14 < 6 ∨ a_164 = 0 := (by rcases h_164 with ⟨q0, q1, q2, q3, q4, q5, q6, q7⟩ | ⟨q0, q1, q2⟩; exact Or.inl q1.1; exact Or.inr q0)
                            refine r_istore_n (ls' := [(3, zI a_164), (0, zR 33), (1, zI b), (2, zI n)]) 3 dM_readsHotel_167 rfl (by decide) rfl ?_
                            refine r_goto 141 dM_readsHotel_168 (by decide) ?_
                            exact ih_141 a_164 w_164 (hfm.trans (by rcases h_164 with ⟨q0, q1, q2, q3, q4, q5, q6, q7⟩ | ⟨q0, q1, q2⟩; exact (fun i j z1 z2 => by rw [q7 i j (by omega), if_neg (by omega), if_neg (by omega), if_neg (by omega)]); exact (fun i j z1 z2 => q1 i j (by omega)))) (by omega) (by rcases h_164 with ⟨q0, q1, q2, q3, q4, q5, q6, q7⟩ | ⟨q0, q1, q2⟩; exact Or.inl ⟨q0, hI2.step rfl rfl hj6.1 q1 q2 q3 q4 q5 q6 q7⟩; exact Or.inr ⟨q0, zFl_g a1 a5 hj6.2 a6 (by omega) q2⟩) (by omega)
                  exact L_141 15 ok wl hfr (‹zOk wl› 33 14) (by first | (refine Or.inr ?_; rcases hI with q | q; (exfalso; omega); exact q) | exact Or.inl ⟨by omega, hI1.fin (by omega) (by omega) (by omega)⟩) (by have := ‹zOk wl› 33 14; change 0 ≤ wl.1 33 14 ∧ wl.1 33 14 ≤ 6 at this; omega)
                · obtain ⟨_, a1, a2, a3, a4, a5, a6, a7, a8⟩ : ok = 1 ∧ zI1 wl b c n := (by rcases hI with q | q; exact q; exact absurd q.1 (by omega))
                  have hI1 : zI1 wl b c n := ⟨a1, a2, a3, a4, a5, a6, a7, a8⟩
                  refine r_aload_n 0 1 dM_readsHotel_113 rfl rfl ?_
                  refine r_getI (k := 13) fX7 rfl rfl (by decide) kw_518 rfl 13 rfl dM_readsHotel_114 rfl (fun y_114 ey_114 ly_114 uy_114 => ?_)
                  refine r_if_eq 131 dM_readsHotel_117 (by decide) ⟨by omega, by omega⟩ (fun c_117 => ?_) (fun c_117 => ?_)
                  · refine r_aload_n 0 1 dM_readsHotel_131 rfl rfl ?_
                    refine r_iload_n 1 2 dM_readsHotel_132 rfl rfl ?_
                    refine r_iload_n 2 3 dM_readsHotel_133 rfl rfl ?_
                    refine r_cVI (cM_readsDoing wl b n c (wl.1 33 13) (by omega) (by omega) (by omega) (by omega) a2 rfl (by omega) (by omega)) qM_readsDoing rfl kw_659 rfl rfl dM_readsHotel_134 (st0 := [zI n, zI b, zR 33]) (st := []) rfl ⟨Nat.le_of_ble_eq_true rfl, Nat.le_of_ble_eq_true rfl⟩ ⟨Nat.le_of_ble_eq_true rfl, Nat.le_of_ble_eq_true rfl⟩ (Nat.le_of_ble_eq_true rfl) (fun a_134 w_134 h_134 ok_134 => ?_)
                    have hk13 : (a_134 = 1 ∧ w_134.1 33 13 = wl.1 33 13 + 1) ∨ (a_134 = 0 ∧ w_134.1 33 13 = wl.1 33 13) := (by rcases h_134 with ⟨q0, q1, q2, q3, q4, q5, q6⟩ | ⟨q0, q1, q2⟩; exact Or.inl ⟨q0, q5⟩; exact Or.inr ⟨q0, q1 _ _ (by omega)⟩)
                    have hk134 : wl.1 33 13 < 4 ∨ a_134 = 0 := (by rcases h_134 with ⟨q0, q1, q2, q3, q4, q5, q6⟩ | ⟨q0, q1, q2⟩; exact Or.inl q1.1; exact Or.inr q0)
                    refine r_istore_n (ls' := [(3, zI a_134), (0, zR 33), (1, zI b), (2, zI n)]) 3 dM_readsHotel_137 rfl (by decide) rfl ?_
                    refine r_goto 109 dM_readsHotel_138 (by decide) ?_
                    exact ih_109 a_134 w_134 (hfr.trans (by rcases h_134 with ⟨q0, q1, q2, q3, q4, q5, q6⟩ | ⟨q0, q1, q2⟩; exact (fun i j z1 z2 => by rw [q6 i j (by omega), if_neg (by omega), if_neg (by omega)]); exact (fun i j z1 z2 => q1 i j (by omega)))) (by omega) (by rcases h_134 with ⟨q0, q1, q2, q3, q4, q5, q6⟩ | ⟨q0, q1, q2⟩; exact Or.inl ⟨q0, hI1.step rfl hk4.1 q1 q2 q3 q4 q5 q6⟩; exact Or.inr ⟨q0, zFl_d a1 hk4.1 hk4.2 a4 (by omega) q2⟩) (by omega)
                  · refine r_aload_n 0 1 dM_readsHotel_120 rfl rfl ?_
                    refine r_iload_n 1 2 dM_readsHotel_121 rfl rfl ?_
                    refine r_iload_n 2 3 dM_readsHotel_122 rfl rfl ?_
                    refine r_cVI (cM_codeAt wl b n c (3 + 3 * wl.1 33 13) (by omega) (by omega) (by omega) (by omega) a2) qM_codeAt rfl kw_651 rfl rfl dM_readsHotel_123 (st0 := [zI n, zI b, zR 33]) (st := []) rfl ⟨Nat.le_of_ble_eq_true rfl, Nat.le_of_ble_eq_true rfl⟩ ⟨Nat.le_of_ble_eq_true rfl, Nat.le_of_ble_eq_true rfl⟩ (Nat.le_of_ble_eq_true rfl) (fun a_123 w_123 h_123 ok_123 => ?_)
                    obtain ⟨rfl, h_123⟩ := h_123
                    refine r_bipush dM_readsHotel_126 (by decide) ?_
                    refine r_ic_ne 141 dM_readsHotel_128 (by decide) ⟨by omega, by omega⟩ ⟨by omega, by omega⟩ (fun c_128 => ?_) (fun c_128 => ?_)
                    · have L_141 : ∀ (n_141 : Nat) (ok : Int) (wm : zW) (hfm : zFr5 w wm) (hj6 : 0 ≤ wm.1 33 14 ∧ wm.1 33 14 ≤ 6) (hJ : (ok = 1 ∧ zI2 wm b c n) ∨ (ok = 0 ∧ zFl c n (wm.1 33 10))), 8 * ok + 6 - wm.1 33 14 < (n_141 : Int) → zM mM_readsHotel (zZm 3 (zrI fun a w' => zFr5 w w' ∧ ((a = 1 ∧ zTx c n = (true, n, w'.1 33 13, w'.1 33 14) ∧ zI2 w' b c n ∧ 2 ≤ w'.1 33 14) ∨ (a = 0 ∧ zFl c n (w'.1 33 10))))) 141 [(3, zI ok), (0, zR 33), (1, zI b), (2, zI n)] [] wm := by
                        intro n_141
                        induction n_141 with
                        | zero => intro ok wm hfm hj6 hJ hm_141; exfalso; omega
                        | succ n_141 ih_141 =>
                          intro ok wm hfm hj6 hJ hm_141
                          refine r_ok (fun hOm => ?_)
                          refine r_iload_n 3 0 dM_readsHotel_141 rfl rfl ?_
                          refine r_if_eq 171 dM_readsHotel_142 (by decide) ⟨by omega, by omega⟩ (fun c_142 => ?_) (fun c_142 => ?_)
                          · refine r_iload_n 3 0 dM_readsHotel_171 rfl rfl ?_
                            refine r_zret rfl (by omega) dM_readsHotel_172 ⟨_, rfl, ?_⟩
                            exact ⟨hfm, by first | (refine Or.inr ?_; rcases hJ with q | q; (exfalso; omega); exact q) | exact Or.inl ⟨by omega, hI2.fin (by omega) hj6.2 (by omega), hI2, by omega⟩⟩
                          · obtain ⟨_, a1, a2, a3, a4, a5, a6, a7, a8, a9, a10⟩ : ok = 1 ∧ zI2 wm b c n := (by rcases hJ with q | q; exact q; exact absurd q.1 (by omega))
                            have hI2 : zI2 wm b c n := ⟨a1, a2, a3, a4, a5, a6, a7, a8, a9, a10⟩
                            have hp10 := a2.2
                            refine r_aload_n 0 1 dM_readsHotel_145 rfl rfl ?_
                            refine r_getI (k := 14) fX7 rfl rfl (by decide) kw_519 rfl 14 rfl dM_readsHotel_146 rfl (fun y_146 ey_146 ly_146 uy_146 => ?_)
                            refine r_iconst dM_readsHotel_149 ?_
                            refine r_ic_lt 161 dM_readsHotel_150 (by decide) ⟨by omega, by omega⟩ ⟨by omega, by omega⟩ (fun c_150 => ?_) (fun c_150 => ?_)
                            · refine r_aload_n 0 1 dM_readsHotel_161 rfl rfl ?_
                              refine r_iload_n 1 2 dM_readsHotel_162 rfl rfl ?_
                              refine r_iload_n 2 3 dM_readsHotel_163 rfl rfl ?_
                              refine r_cVI (cM_readsGuest wm b n c (wm.1 33 13) (wm.1 33 14) (by omega) (by omega) (by omega) (by omega) a2 rfl (by omega) (by omega) rfl (by omega) (by omega)) qM_readsGuest rfl kw_663 rfl rfl dM_readsHotel_164 (st0 := [zI n, zI b, zR 33]) (st := []) rfl ⟨Nat.le_of_ble_eq_true rfl, Nat.le_of_ble_eq_true rfl⟩ ⟨Nat.le_of_ble_eq_true rfl, Nat.le_of_ble_eq_true rfl⟩ (Nat.le_of_ble_eq_true rfl) (fun a_164 w_164 h_164 ok_164 => ?_)
                              have hj14 : (a_164 = 1 ∧ w_164.1 33 14 = wm.1 33 14 + 1) ∨ (a_164 = 0 ∧ w_164.1 33 14 = wm.1 33 14) := (by rcases h_164 with ⟨q0, q1, q2, q3, q4, q5, q6, q7⟩ | ⟨q0, q1, q2⟩; exact Or.inl ⟨q0, q6⟩; exact Or.inr ⟨q0, q1 _ _ (by omega)⟩)
                              have hj164 : wm.1 33 14 < 6 ∨ a_164 = 0 := (by rcases h_164 with ⟨q0, q1, q2, q3, q4, q5, q6, q7⟩ | ⟨q0, q1, q2⟩; exact Or.inl q1.1; exact Or.inr q0)
                              refine r_istore_n (ls' := [(3, zI a_164), (0, zR 33), (1, zI b), (2, zI n)]) 3 dM_readsHotel_167 rfl (by decide) rfl ?_
                              refine r_goto 141 dM_readsHotel_168 (by decide) ?_
                              exact ih_141 a_164 w_164 (hfm.trans (by rcases h_164 with ⟨q0, q1, q2, q3, q4, q5, q6, q7⟩ | ⟨q0, q1, q2⟩; exact (fun i j z1 z2 => by rw [q7 i j (by omega), if_neg (by omega), if_neg (by omega), if_neg (by omega)]); exact (fun i j z1 z2 => q1 i j (by omega)))) (by omega) (by rcases h_164 with ⟨q0, q1, q2, q3, q4, q5, q6, q7⟩ | ⟨q0, q1, q2⟩; exact Or.inl ⟨q0, hI2.step rfl rfl hj6.1 q1 q2 q3 q4 q5 q6 q7⟩; exact Or.inr ⟨q0, zFl_g a1 a5 hj6.2 a6 (by omega) q2⟩) (by omega)
                            · refine r_aload_n 0 1 dM_readsHotel_153 rfl rfl ?_
                              refine r_getI (k := 10) fX7 rfl rfl (by decide) kw_515 rfl 10 rfl dM_readsHotel_154 rfl (fun y_154 ey_154 ly_154 uy_154 => ?_)
                              refine r_iload_n 2 3 dM_readsHotel_157 rfl rfl ?_
                              refine r_ic_ge 171 dM_readsHotel_158 (by decide) ⟨by omega, by omega⟩ ⟨by omega, by omega⟩ (fun c_158 => ?_) (fun c_158 => ?_)
                              · refine r_iload_n 3 0 dM_readsHotel_171 rfl rfl ?_
                                refine r_zret rfl (by omega) dM_readsHotel_172 ⟨_, rfl, ?_⟩
                                exact ⟨hfm, by first | (refine Or.inr ?_; rcases hJ with q | q; (exfalso; omega); exact q) | exact Or.inl ⟨by omega, hI2.fin (by omega) hj6.2 (by omega), hI2, by omega⟩⟩
                              · refine r_aload_n 0 1 dM_readsHotel_161 rfl rfl ?_
                                refine r_iload_n 1 2 dM_readsHotel_162 rfl rfl ?_
                                refine r_iload_n 2 3 dM_readsHotel_163 rfl rfl ?_
                                refine r_cVI (cM_readsGuest wm b n c (wm.1 33 13) (wm.1 33 14) (by omega) (by omega) (by omega) (by omega) a2 rfl (by omega) (by omega) rfl (by omega) (by omega)) qM_readsGuest rfl kw_663 rfl rfl dM_readsHotel_164 (st0 := [zI n, zI b, zR 33]) (st := []) rfl ⟨Nat.le_of_ble_eq_true rfl, Nat.le_of_ble_eq_true rfl⟩ ⟨Nat.le_of_ble_eq_true rfl, Nat.le_of_ble_eq_true rfl⟩ (Nat.le_of_ble_eq_true rfl) (fun a_164 w_164 h_164 ok_164 => ?_)
                                have hj14 : (a_164 = 1 ∧ w_164.1 33 14 = wm.1 33 14 + 1) ∨ (a_164 = 0 ∧ w_164.1 33 14 = wm.1 33 14) := (by rcases h_164 with ⟨q0, q1, q2, q3, q4, q5, q6, q7⟩ | ⟨q0, q1, q2⟩; exact Or.inl ⟨q0, q6⟩; exact Or.inr ⟨q0, q1 _ _ (by omega)⟩)
                                have hj164 : wm.1 33 14 < 6 ∨ a_164 = 0 := (by rcases h_164 with ⟨q0, q1, q2, q3, q4, q5, q6, q7⟩ | ⟨q0, q1, q2⟩; exact Or.inl q1.1; exact Or.inr q0)
                                refine r_istore_n (ls' := [(3, zI a_164), (0, zR 33), (1, zI b), (2, zI n)]) 3 dM_readsHotel_167 rfl (by decide) rfl ?_
                                refine r_goto 141 dM_readsHotel_168 (by decide) ?_
                                exact ih_141 a_164 w_164 (hfm.trans (by rcases h_164 with ⟨q0, q1, q2, q3, q4, q5, q6, q7⟩ | ⟨q0, q1, q2⟩; exact (fun i j z1 z2 => by rw [q7 i j (by omega), if_neg (by omega), if_neg (by omega), if_neg (by omega)]); exact (fun i j z1 z2 => q1 i j (by omega)))) (by omega) (by rcases h_164 with ⟨q0, q1, q2, q3, q4, q5, q6, q7⟩ | ⟨q0, q1, q2⟩; exact Or.inl ⟨q0, hI2.step rfl rfl hj6.1 q1 q2 q3 q4 q5 q6 q7⟩; exact Or.inr ⟨q0, zFl_g a1 a5 hj6.2 a6 (by omega) q2⟩) (by omega)
                      exact L_141 15 ok wl hfr (‹zOk wl› 33 14) (by first | (refine Or.inr ?_; rcases hI with q | q; (exfalso; omega); exact q) | exact Or.inl ⟨by omega, hI1.fin (by omega) (by omega) (by omega)⟩) (by have := ‹zOk wl› 33 14; change 0 ≤ wl.1 33 14 ∧ wl.1 33 14 ≤ 6 at this; omega)
                    · refine r_aload_n 0 1 dM_readsHotel_131 rfl rfl ?_
                      refine r_iload_n 1 2 dM_readsHotel_132 rfl rfl ?_
                      refine r_iload_n 2 3 dM_readsHotel_133 rfl rfl ?_
                      refine r_cVI (cM_readsDoing wl b n c (wl.1 33 13) (by omega) (by omega) (by omega) (by omega) a2 rfl (by omega) (by omega)) qM_readsDoing rfl kw_659 rfl rfl dM_readsHotel_134 (st0 := [zI n, zI b, zR 33]) (st := []) rfl ⟨Nat.le_of_ble_eq_true rfl, Nat.le_of_ble_eq_true rfl⟩ ⟨Nat.le_of_ble_eq_true rfl, Nat.le_of_ble_eq_true rfl⟩ (Nat.le_of_ble_eq_true rfl) (fun a_134 w_134 h_134 ok_134 => ?_)
                      have hk13 : (a_134 = 1 ∧ w_134.1 33 13 = wl.1 33 13 + 1) ∨ (a_134 = 0 ∧ w_134.1 33 13 = wl.1 33 13) := (by rcases h_134 with ⟨q0, q1, q2, q3, q4, q5, q6⟩ | ⟨q0, q1, q2⟩; exact Or.inl ⟨q0, q5⟩; exact Or.inr ⟨q0, q1 _ _ (by omega)⟩)
                      have hk134 : wl.1 33 13 < 4 ∨ a_134 = 0 := (by rcases h_134 with ⟨q0, q1, q2, q3, q4, q5, q6⟩ | ⟨q0, q1, q2⟩; exact Or.inl q1.1; exact Or.inr q0)
                      refine r_istore_n (ls' := [(3, zI a_134), (0, zR 33), (1, zI b), (2, zI n)]) 3 dM_readsHotel_137 rfl (by decide) rfl ?_
                      refine r_goto 109 dM_readsHotel_138 (by decide) ?_
                      exact ih_109 a_134 w_134 (hfr.trans (by rcases h_134 with ⟨q0, q1, q2, q3, q4, q5, q6⟩ | ⟨q0, q1, q2⟩; exact (fun i j z1 z2 => by rw [q6 i j (by omega), if_neg (by omega), if_neg (by omega)]); exact (fun i j z1 z2 => q1 i j (by omega)))) (by omega) (by rcases h_134 with ⟨q0, q1, q2, q3, q4, q5, q6⟩ | ⟨q0, q1, q2⟩; exact Or.inl ⟨q0, hI1.step rfl hk4.1 q1 q2 q3 q4 q5 q6⟩; exact Or.inr ⟨q0, zFl_d a1 hk4.1 hk4.2 a4 (by omega) q2⟩) (by omega)
            exact L_109 11 0 w_93 (by first | exact (fun i j q1 q2 => by rw [ew_93, zput_e, if_neg (by omega), ew_68, zput_e, if_neg (by omega), ew_47, zput_e, if_neg (by omega), ew_12, zput_e, if_neg (by omega), ew_7, zput_e, if_neg (by omega), ew_2, zput_e, if_neg (by omega)]) | exact (fun i j q1 q2 => by rw [ew_93, zput_e, if_neg (by omega), ew_68, zput_e, if_neg (by omega), h_60.1 _ _ (by omega), ew_47, zput_e, if_neg (by omega), ew_12, zput_e, if_neg (by omega), ew_7, zput_e, if_neg (by omega), ew_2, zput_e, if_neg (by omega)]) | exact (fun i j q1 q2 => by rw [ew_93, zput_e, if_neg (by omega), h_85.1 _ _ (by omega), ew_68, zput_e, if_neg (by omega), h_60.1 _ _ (by omega), ew_47, zput_e, if_neg (by omega), ew_12, zput_e, if_neg (by omega), ew_7, zput_e, if_neg (by omega), ew_2, zput_e, if_neg (by omega)]) | (exfalso; omega)) (by have e13 : w_93.1 33 13 = 0 := (by first | rw [ew_93, zput_k _ _ (by decide), ew_68, zput_k _ _ (by decide), ew_47, zput_k _ _ (by decide), ew_12, zput_k _ _ (by decide), ew_7, zput_s] | rw [ew_93, zput_k _ _ (by decide), ew_68, zput_k _ _ (by decide), h_60.1 _ _ (by omega), ew_47, zput_k _ _ (by decide), ew_12, zput_k _ _ (by decide), ew_7, zput_s] | rw [ew_93, zput_k _ _ (by decide), h_85.1 _ _ (by omega), ew_68, zput_k _ _ (by decide), h_60.1 _ _ (by omega), ew_47, zput_k _ _ (by decide), ew_12, zput_k _ _ (by decide), ew_7, zput_s] | (exfalso; omega)); rw [e13]; decide) (by first | (exfalso; omega) | exact Or.inr ⟨rfl, (by have e10 : w_93.1 33 10 = 0 := (by rw [ew_93, zput_k _ _ (by decide), ew_68, zput_k _ _ (by decide), ew_47, zput_s]; omega); rw [e10]; exact zFl_0 (by omega))⟩ | exact Or.inr ⟨rfl, (by have e10 : w_93.1 33 10 = 1 := (by rw [ew_93, zput_k _ _ (by decide), ew_68, zput_k _ _ (by decide)]; omega); rw [e10]; exact zFl_1 (by omega) (by omega))⟩ | exact Or.inr ⟨rfl, (by have e10 : w_93.1 33 10 = 2 := (by rw [ew_93, zput_k _ _ (by decide)]; omega); rw [e10]; exact zFl_2 (by omega) (by omega) (by omega))⟩ | exact Or.inl ⟨rfl, (by have e13 : w_93.1 33 13 = 0 := (by rw [ew_93, zput_k _ _ (by decide), h_85.1 _ _ (by omega), ew_68, zput_k _ _ (by decide), h_60.1 _ _ (by omega), ew_47, zput_k _ _ (by decide), ew_12, zput_k _ _ (by decide), ew_7, zput_s]); have e10 : w_93.1 33 10 = 3 := (by rw [ew_93, zput_k _ _ (by decide)]; omega); have e14 : w_93.1 33 14 = 0 := (by rw [ew_93, zput_k _ _ (by decide), h_85.1 _ _ (by omega), ew_68, zput_k _ _ (by decide), h_60.1 _ _ (by omega), ew_47, zput_k _ _ (by decide), ew_12, zput_s]); have e11 : w_93.1 33 11 = a_60 := (by rw [ew_93, zput_k _ _ (by decide), h_85.1 _ _ (by omega), ew_68, zput_s]); have e12 : w_93.1 33 12 = a_85 := (by rw [ew_93, zput_s]); unfold zI1; rw [e13]; exact ⟨⟨by omega, by omega, by omega⟩, zRS.fr hT3 (fun q => by rw [ew_93, zput_i _ _ _ _ (by decide)]) (by omega), by omega, rfl, e14, by omega, by omega, fun d d0 d1 => absurd d1 (by omega)⟩)⟩) (by have e13 : w_93.1 33 13 = 0 := (by first | rw [ew_93, zput_k _ _ (by decide), ew_68, zput_k _ _ (by decide), ew_47, zput_k _ _ (by decide), ew_12, zput_k _ _ (by decide), ew_7, zput_s] | rw [ew_93, zput_k _ _ (by decide), ew_68, zput_k _ _ (by decide), h_60.1 _ _ (by omega), ew_47, zput_k _ _ (by decide), ew_12, zput_k _ _ (by decide), ew_7, zput_s] | rw [ew_93, zput_k _ _ (by decide), h_85.1 _ _ (by omega), ew_68, zput_k _ _ (by decide), h_60.1 _ _ (by omega), ew_47, zput_k _ _ (by decide), ew_12, zput_k _ _ (by decide), ew_7, zput_s] | (exfalso; omega)); rw [e13]; decide)
          · refine r_iconst dM_readsHotel_103 ?_
            refine r_goto 108 dM_readsHotel_104 (by decide) ?_
            refine r_istore_n (ls' := [(3, zI 1), (0, zR 33), (1, zI b), (2, zI n)]) 3 dM_readsHotel_108 rfl (by decide) rfl ?_
            have L_109 : ∀ (n_109 : Nat) (ok : Int) (wl : zW) (hfr : zFr5 w wl) (hk4 : 0 ≤ wl.1 33 13 ∧ wl.1 33 13 ≤ 4) (hI : (ok = 1 ∧ zI1 wl b c n) ∨ (ok = 0 ∧ zFl c n (wl.1 33 10))), 6 * ok + 4 - wl.1 33 13 < (n_109 : Int) → zM mM_readsHotel (zZm 3 (zrI fun a w' => zFr5 w w' ∧ ((a = 1 ∧ zTx c n = (true, n, w'.1 33 13, w'.1 33 14) ∧ zI2 w' b c n ∧ 2 ≤ w'.1 33 14) ∨ (a = 0 ∧ zFl c n (w'.1 33 10))))) 109 [(3, zI ok), (0, zR 33), (1, zI b), (2, zI n)] [] wl := by
              intro n_109
              induction n_109 with
              | zero => intro ok wl hfr hk4 hI hm_109; exfalso; omega
              | succ n_109 ih_109 =>
                intro ok wl hfr hk4 hI hm_109
                refine r_ok (fun hOl => ?_)
                refine r_iload_n 3 0 dM_readsHotel_109 rfl rfl ?_
                refine r_if_eq 141 dM_readsHotel_110 (by decide) ⟨by omega, by omega⟩ (fun c_110 => ?_) (fun c_110 => ?_)
                · have L_141 : ∀ (n_141 : Nat) (ok : Int) (wm : zW) (hfm : zFr5 w wm) (hj6 : 0 ≤ wm.1 33 14 ∧ wm.1 33 14 ≤ 6) (hJ : (ok = 1 ∧ zI2 wm b c n) ∨ (ok = 0 ∧ zFl c n (wm.1 33 10))), 8 * ok + 6 - wm.1 33 14 < (n_141 : Int) → zM mM_readsHotel (zZm 3 (zrI fun a w' => zFr5 w w' ∧ ((a = 1 ∧ zTx c n = (true, n, w'.1 33 13, w'.1 33 14) ∧ zI2 w' b c n ∧ 2 ≤ w'.1 33 14) ∨ (a = 0 ∧ zFl c n (w'.1 33 10))))) 141 [(3, zI ok), (0, zR 33), (1, zI b), (2, zI n)] [] wm := by
                    intro n_141
                    induction n_141 with
                    | zero => intro ok wm hfm hj6 hJ hm_141; exfalso; omega
                    | succ n_141 ih_141 =>
                      intro ok wm hfm hj6 hJ hm_141
                      refine r_ok (fun hOm => ?_)
                      refine r_iload_n 3 0 dM_readsHotel_141 rfl rfl ?_
                      refine r_if_eq 171 dM_readsHotel_142 (by decide) ⟨by omega, by omega⟩ (fun c_142 => ?_) (fun c_142 => ?_)
                      · refine r_iload_n 3 0 dM_readsHotel_171 rfl rfl ?_
                        refine r_zret rfl (by omega) dM_readsHotel_172 ⟨_, rfl, ?_⟩
                        exact ⟨hfm, by first | (refine Or.inr ?_; rcases hJ with q | q; (exfalso; omega); exact q) | exact Or.inl ⟨by omega, hI2.fin (by omega) hj6.2 (by omega), hI2, by omega⟩⟩
                      · obtain ⟨_, a1, a2, a3, a4, a5, a6, a7, a8, a9, a10⟩ : ok = 1 ∧ zI2 wm b c n := (by rcases hJ with q | q; exact q; exact absurd q.1 (by omega))
                        have hI2 : zI2 wm b c n := ⟨a1, a2, a3, a4, a5, a6, a7, a8, a9, a10⟩
                        have hp10 := a2.2
                        refine r_aload_n 0 1 dM_readsHotel_145 rfl rfl ?_
                        refine r_getI (k := 14) fX7 rfl rfl (by decide) kw_519 rfl 14 rfl dM_readsHotel_146 rfl (fun y_146 ey_146 ly_146 uy_146 => ?_)
                        refine r_iconst dM_readsHotel_149 ?_
                        refine r_ic_lt 161 dM_readsHotel_150 (by decide) ⟨by omega, by omega⟩ ⟨by omega, by omega⟩ (fun c_150 => ?_) (fun c_150 => ?_)
                        · refine r_aload_n 0 1 dM_readsHotel_161 rfl rfl ?_
                          refine r_iload_n 1 2 dM_readsHotel_162 rfl rfl ?_
                          refine r_iload_n 2 3 dM_readsHotel_163 rfl rfl ?_
                          refine r_cVI (cM_readsGuest wm b n c (wm.1 33 13) (wm.1 33 14) (by omega) (by omega) (by omega) (by omega) a2 rfl (by omega) (by omega) rfl (by omega) (by omega)) qM_readsGuest rfl kw_663 rfl rfl dM_readsHotel_164 (st0 := [zI n, zI b, zR 33]) (st := []) rfl ⟨Nat.le_of_ble_eq_true rfl, Nat.le_of_ble_eq_true rfl⟩ ⟨Nat.le_of_ble_eq_true rfl, Nat.le_of_ble_eq_true rfl⟩ (Nat.le_of_ble_eq_true rfl) (fun a_164 w_164 h_164 ok_164 => ?_)
                          have hj14 : (a_164 = 1 ∧ w_164.1 33 14 = wm.1 33 14 + 1) ∨ (a_164 = 0 ∧ w_164.1 33 14 = wm.1 33 14) := (by rcases h_164 with ⟨q0, q1, q2, q3, q4, q5, q6, q7⟩ | ⟨q0, q1, q2⟩; exact Or.inl ⟨q0, q6⟩; exact Or.inr ⟨q0, q1 _ _ (by omega)⟩)
                          have hj164 : wm.1 33 14 < 6 ∨ a_164 = 0 := (by rcases h_164 with ⟨q0, q1, q2, q3, q4, q5, q6, q7⟩ | ⟨q0, q1, q2⟩; exact Or.inl q1.1; exact Or.inr q0)
                          refine r_istore_n (ls' := [(3, zI a_164), (0, zR 33), (1, zI b), (2, zI n)]) 3 dM_readsHotel_167 rfl (by decide) rfl ?_
                          refine r_goto 141 dM_readsHotel_168 (by decide) ?_
                          exact ih_141 a_164 w_164 (hfm.trans (by rcases h_164 with ⟨q0, q1, q2, q3, q4, q5, q6, q7⟩ | ⟨q0, q1, q2⟩; exact (fun i j z1 z2 => by rw [q7 i j (by omega), if_neg (by omega), if_neg (by omega), if_neg (by omega)]); exact (fun i j z1 z2 => q1 i j (by omega)))) (by omega) (by rcases h_164 with ⟨q0, q1, q2, q3, q4, q5, q6, q7⟩ | ⟨q0, q1, q2⟩; exact Or.inl ⟨q0, hI2.step rfl rfl hj6.1 q1 q2 q3 q4 q5 q6 q7⟩; exact Or.inr ⟨q0, zFl_g a1 a5 hj6.2 a6 (by omega) q2⟩) (by omega)
                        · refine r_aload_n 0 1 dM_readsHotel_153 rfl rfl ?_
                          refine r_getI (k := 10) fX7 rfl rfl (by decide) kw_515 rfl 10 rfl dM_readsHotel_154 rfl (fun y_154 ey_154 ly_154 uy_154 => ?_)
                          refine r_iload_n 2 3 dM_readsHotel_157 rfl rfl ?_
                          refine r_ic_ge 171 dM_readsHotel_158 (by decide) ⟨by omega, by omega⟩ ⟨by omega, by omega⟩ (fun c_158 => ?_) (fun c_158 => ?_)
                          · refine r_iload_n 3 0 dM_readsHotel_171 rfl rfl ?_
                            refine r_zret rfl (by omega) dM_readsHotel_172 ⟨_, rfl, ?_⟩
                            exact ⟨hfm, by first | (refine Or.inr ?_; rcases hJ with q | q; (exfalso; omega); exact q) | exact Or.inl ⟨by omega, hI2.fin (by omega) hj6.2 (by omega), hI2, by omega⟩⟩
                          · refine r_aload_n 0 1 dM_readsHotel_161 rfl rfl ?_
                            refine r_iload_n 1 2 dM_readsHotel_162 rfl rfl ?_
                            refine r_iload_n 2 3 dM_readsHotel_163 rfl rfl ?_
                            refine r_cVI (cM_readsGuest wm b n c (wm.1 33 13) (wm.1 33 14) (by omega) (by omega) (by omega) (by omega) a2 rfl (by omega) (by omega) rfl (by omega) (by omega)) qM_readsGuest rfl kw_663 rfl rfl dM_readsHotel_164 (st0 := [zI n, zI b, zR 33]) (st := []) rfl ⟨Nat.le_of_ble_eq_true rfl, Nat.le_of_ble_eq_true rfl⟩ ⟨Nat.le_of_ble_eq_true rfl, Nat.le_of_ble_eq_true rfl⟩ (Nat.le_of_ble_eq_true rfl) (fun a_164 w_164 h_164 ok_164 => ?_)
                            have hj14 : (a_164 = 1 ∧ w_164.1 33 14 = wm.1 33 14 + 1) ∨ (a_164 = 0 ∧ w_164.1 33 14 = wm.1 33 14) := (by rcases h_164 with ⟨q0, q1, q2, q3, q4, q5, q6, q7⟩ | ⟨q0, q1, q2⟩; exact Or.inl ⟨q0, q6⟩; exact Or.inr ⟨q0, q1 _ _ (by omega)⟩)
                            have hj164 : wm.1 33 14 < 6 ∨ a_164 = 0 := (by rcases h_164 with ⟨q0, q1, q2, q3, q4, q5, q6, q7⟩ | ⟨q0, q1, q2⟩; exact Or.inl q1.1; exact Or.inr q0)
                            refine r_istore_n (ls' := [(3, zI a_164), (0, zR 33), (1, zI b), (2, zI n)]) 3 dM_readsHotel_167 rfl (by decide) rfl ?_
                            refine r_goto 141 dM_readsHotel_168 (by decide) ?_
                            exact ih_141 a_164 w_164 (hfm.trans (by rcases h_164 with ⟨q0, q1, q2, q3, q4, q5, q6, q7⟩ | ⟨q0, q1, q2⟩; exact (fun i j z1 z2 => by rw [q7 i j (by omega), if_neg (by omega), if_neg (by omega), if_neg (by omega)]); exact (fun i j z1 z2 => q1 i j (by omega)))) (by omega) (by rcases h_164 with ⟨q0, q1, q2, q3, q4, q5, q6, q7⟩ | ⟨q0, q1, q2⟩; exact Or.inl ⟨q0, hI2.step rfl rfl hj6.1 q1 q2 q3 q4 q5 q6 q7⟩; exact Or.inr ⟨q0, zFl_g a1 a5 hj6.2 a6 (by omega) q2⟩) (by omega)
                  exact L_141 15 ok wl hfr (‹zOk wl› 33 14) (by first | (refine Or.inr ?_; rcases hI with q | q; (exfalso; omega); exact q) | exact Or.inl ⟨by omega, hI1.fin (by omega) (by omega) (by omega)⟩) (by have := ‹zOk wl› 33 14; change 0 ≤ wl.1 33 14 ∧ wl.1 33 14 ≤ 6 at this; omega)
                · obtain ⟨_, a1, a2, a3, a4, a5, a6, a7, a8⟩ : ok = 1 ∧ zI1 wl b c n := (by rcases hI with q | q; exact q; exact absurd q.1 (by omega))
                  have hI1 : zI1 wl b c n := ⟨a1, a2, a3, a4, a5, a6, a7, a8⟩
                  refine r_aload_n 0 1 dM_readsHotel_113 rfl rfl ?_
                  refine r_getI (k := 13) fX7 rfl rfl (by decide) kw_518 rfl 13 rfl dM_readsHotel_114 rfl (fun y_114 ey_114 ly_114 uy_114 => ?_)
                  refine r_if_eq 131 dM_readsHotel_117 (by decide) ⟨by omega, by omega⟩ (fun c_117 => ?_) (fun c_117 => ?_)
                  · refine r_aload_n 0 1 dM_readsHotel_131 rfl rfl ?_
                    refine r_iload_n 1 2 dM_readsHotel_132 rfl rfl ?_
                    refine r_iload_n 2 3 dM_readsHotel_133 rfl rfl ?_
                    refine r_cVI (cM_readsDoing wl b n c (wl.1 33 13) (by omega) (by omega) (by omega) (by omega) a2 rfl (by omega) (by omega)) qM_readsDoing rfl kw_659 rfl rfl dM_readsHotel_134 (st0 := [zI n, zI b, zR 33]) (st := []) rfl ⟨Nat.le_of_ble_eq_true rfl, Nat.le_of_ble_eq_true rfl⟩ ⟨Nat.le_of_ble_eq_true rfl, Nat.le_of_ble_eq_true rfl⟩ (Nat.le_of_ble_eq_true rfl) (fun a_134 w_134 h_134 ok_134 => ?_)
                    have hk13 : (a_134 = 1 ∧ w_134.1 33 13 = wl.1 33 13 + 1) ∨ (a_134 = 0 ∧ w_134.1 33 13 = wl.1 33 13) := (by rcases h_134 with ⟨q0, q1, q2, q3, q4, q5, q6⟩ | ⟨q0, q1, q2⟩; exact Or.inl ⟨q0, q5⟩; exact Or.inr ⟨q0, q1 _ _ (by omega)⟩)
                    have hk134 : wl.1 33 13 < 4 ∨ a_134 = 0 := (by rcases h_134 with ⟨q0, q1, q2, q3, q4, q5, q6⟩ | ⟨q0, q1, q2⟩; exact Or.inl q1.1; exact Or.inr q0)
                    refine r_istore_n (ls' := [(3, zI a_134), (0, zR 33), (1, zI b), (2, zI n)]) 3 dM_readsHotel_137 rfl (by decide) rfl ?_
                    refine r_goto 109 dM_readsHotel_138 (by decide) ?_
                    exact ih_109 a_134 w_134 (hfr.trans (by rcases h_134 with ⟨q0, q1, q2, q3, q4, q5, q6⟩ | ⟨q0, q1, q2⟩; exact (fun i j z1 z2 => by rw [q6 i j (by omega), if_neg (by omega), if_neg (by omega)]); exact (fun i j z1 z2 => q1 i j (by omega)))) (by omega) (by rcases h_134 with ⟨q0, q1, q2, q3, q4, q5, q6⟩ | ⟨q0, q1, q2⟩; exact Or.inl ⟨q0, hI1.step rfl hk4.1 q1 q2 q3 q4 q5 q6⟩; exact Or.inr ⟨q0, zFl_d a1 hk4.1 hk4.2 a4 (by omega) q2⟩) (by omega)
                  · refine r_aload_n 0 1 dM_readsHotel_120 rfl rfl ?_
                    refine r_iload_n 1 2 dM_readsHotel_121 rfl rfl ?_
                    refine r_iload_n 2 3 dM_readsHotel_122 rfl rfl ?_
                    refine r_cVI (cM_codeAt wl b n c (3 + 3 * wl.1 33 13) (by omega) (by omega) (by omega) (by omega) a2) qM_codeAt rfl kw_651 rfl rfl dM_readsHotel_123 (st0 := [zI n, zI b, zR 33]) (st := []) rfl ⟨Nat.le_of_ble_eq_true rfl, Nat.le_of_ble_eq_true rfl⟩ ⟨Nat.le_of_ble_eq_true rfl, Nat.le_of_ble_eq_true rfl⟩ (Nat.le_of_ble_eq_true rfl) (fun a_123 w_123 h_123 ok_123 => ?_)
                    obtain ⟨rfl, h_123⟩ := h_123
                    refine r_bipush dM_readsHotel_126 (by decide) ?_
                    refine r_ic_ne 141 dM_readsHotel_128 (by decide) ⟨by omega, by omega⟩ ⟨by omega, by omega⟩ (fun c_128 => ?_) (fun c_128 => ?_)
                    · have L_141 : ∀ (n_141 : Nat) (ok : Int) (wm : zW) (hfm : zFr5 w wm) (hj6 : 0 ≤ wm.1 33 14 ∧ wm.1 33 14 ≤ 6) (hJ : (ok = 1 ∧ zI2 wm b c n) ∨ (ok = 0 ∧ zFl c n (wm.1 33 10))), 8 * ok + 6 - wm.1 33 14 < (n_141 : Int) → zM mM_readsHotel (zZm 3 (zrI fun a w' => zFr5 w w' ∧ ((a = 1 ∧ zTx c n = (true, n, w'.1 33 13, w'.1 33 14) ∧ zI2 w' b c n ∧ 2 ≤ w'.1 33 14) ∨ (a = 0 ∧ zFl c n (w'.1 33 10))))) 141 [(3, zI ok), (0, zR 33), (1, zI b), (2, zI n)] [] wm := by
                        intro n_141
                        induction n_141 with
                        | zero => intro ok wm hfm hj6 hJ hm_141; exfalso; omega
                        | succ n_141 ih_141 =>
                          intro ok wm hfm hj6 hJ hm_141
                          refine r_ok (fun hOm => ?_)
                          refine r_iload_n 3 0 dM_readsHotel_141 rfl rfl ?_
                          refine r_if_eq 171 dM_readsHotel_142 (by decide) ⟨by omega, by omega⟩ (fun c_142 => ?_) (fun c_142 => ?_)
                          · refine r_iload_n 3 0 dM_readsHotel_171 rfl rfl ?_
                            refine r_zret rfl (by omega) dM_readsHotel_172 ⟨_, rfl, ?_⟩
                            exact ⟨hfm, by first | (refine Or.inr ?_; rcases hJ with q | q; (exfalso; omega); exact q) | exact Or.inl ⟨by omega, hI2.fin (by omega) hj6.2 (by omega), hI2, by omega⟩⟩
                          · obtain ⟨_, a1, a2, a3, a4, a5, a6, a7, a8, a9, a10⟩ : ok = 1 ∧ zI2 wm b c n := (by rcases hJ with q | q; exact q; exact absurd q.1 (by omega))
                            have hI2 : zI2 wm b c n := ⟨a1, a2, a3, a4, a5, a6, a7, a8, a9, a10⟩
                            have hp10 := a2.2
                            refine r_aload_n 0 1 dM_readsHotel_145 rfl rfl ?_
                            refine r_getI (k := 14) fX7 rfl rfl (by decide) kw_519 rfl 14 rfl dM_readsHotel_146 rfl (fun y_146 ey_146 ly_146 uy_146 => ?_)
                            refine r_iconst dM_readsHotel_149 ?_
                            refine r_ic_lt 161 dM_readsHotel_150 (by decide) ⟨by omega, by omega⟩ ⟨by omega, by omega⟩ (fun c_150 => ?_) (fun c_150 => ?_)
                            · refine r_aload_n 0 1 dM_readsHotel_161 rfl rfl ?_
                              refine r_iload_n 1 2 dM_readsHotel_162 rfl rfl ?_
                              refine r_iload_n 2 3 dM_readsHotel_163 rfl rfl ?_
                              refine r_cVI (cM_readsGuest wm b n c (wm.1 33 13) (wm.1 33 14) (by omega) (by omega) (by omega) (by omega) a2 rfl (by omega) (by omega) rfl (by omega) (by omega)) qM_readsGuest rfl kw_663 rfl rfl dM_readsHotel_164 (st0 := [zI n, zI b, zR 33]) (st := []) rfl ⟨Nat.le_of_ble_eq_true rfl, Nat.le_of_ble_eq_true rfl⟩ ⟨Nat.le_of_ble_eq_true rfl, Nat.le_of_ble_eq_true rfl⟩ (Nat.le_of_ble_eq_true rfl) (fun a_164 w_164 h_164 ok_164 => ?_)
                              have hj14 : (a_164 = 1 ∧ w_164.1 33 14 = wm.1 33 14 + 1) ∨ (a_164 = 0 ∧ w_164.1 33 14 = wm.1 33 14) := (by rcases h_164 with ⟨q0, q1, q2, q3, q4, q5, q6, q7⟩ | ⟨q0, q1, q2⟩; exact Or.inl ⟨q0, q6⟩; exact Or.inr ⟨q0, q1 _ _ (by omega)⟩)
                              have hj164 : wm.1 33 14 < 6 ∨ a_164 = 0 := (by rcases h_164 with ⟨q0, q1, q2, q3, q4, q5, q6, q7⟩ | ⟨q0, q1, q2⟩; exact Or.inl q1.1; exact Or.inr q0)
                              refine r_istore_n (ls' := [(3, zI a_164), (0, zR 33), (1, zI b), (2, zI n)]) 3 dM_readsHotel_167 rfl (by decide) rfl ?_
                              refine r_goto 141 dM_readsHotel_168 (by decide) ?_
                              exact ih_141 a_164 w_164 (hfm.trans (by rcases h_164 with ⟨q0, q1, q2, q3, q4, q5, q6, q7⟩ | ⟨q0, q1, q2⟩; exact (fun i j z1 z2 => by rw [q7 i j (by omega), if_neg (by omega), if_neg (by omega), if_neg (by omega)]); exact (fun i j z1 z2 => q1 i j (by omega)))) (by omega) (by rcases h_164 with ⟨q0, q1, q2, q3, q4, q5, q6, q7⟩ | ⟨q0, q1, q2⟩; exact Or.inl ⟨q0, hI2.step rfl rfl hj6.1 q1 q2 q3 q4 q5 q6 q7⟩; exact Or.inr ⟨q0, zFl_g a1 a5 hj6.2 a6 (by omega) q2⟩) (by omega)
                            · refine r_aload_n 0 1 dM_readsHotel_153 rfl rfl ?_
                              refine r_getI (k := 10) fX7 rfl rfl (by decide) kw_515 rfl 10 rfl dM_readsHotel_154 rfl (fun y_154 ey_154 ly_154 uy_154 => ?_)
                              refine r_iload_n 2 3 dM_readsHotel_157 rfl rfl ?_
                              refine r_ic_ge 171 dM_readsHotel_158 (by decide) ⟨by omega, by omega⟩ ⟨by omega, by omega⟩ (fun c_158 => ?_) (fun c_158 => ?_)
                              · refine r_iload_n 3 0 dM_readsHotel_171 rfl rfl ?_
                                refine r_zret rfl (by omega) dM_readsHotel_172 ⟨_, rfl, ?_⟩
                                exact ⟨hfm, by first | (refine Or.inr ?_; rcases hJ with q | q; (exfalso; omega); exact q) | exact Or.inl ⟨by omega, hI2.fin (by omega) hj6.2 (by omega), hI2, by omega⟩⟩
                              · refine r_aload_n 0 1 dM_readsHotel_161 rfl rfl ?_
                                refine r_iload_n 1 2 dM_readsHotel_162 rfl rfl ?_
                                refine r_iload_n 2 3 dM_readsHotel_163 rfl rfl ?_
                                refine r_cVI (cM_readsGuest wm b n c (wm.1 33 13) (wm.1 33 14) (by omega) (by omega) (by omega) (by omega) a2 rfl (by omega) (by omega) rfl (by omega) (by omega)) qM_readsGuest rfl kw_663 rfl rfl dM_readsHotel_164 (st0 := [zI n, zI b, zR 33]) (st := []) rfl ⟨Nat.le_of_ble_eq_true rfl, Nat.le_of_ble_eq_true rfl⟩ ⟨Nat.le_of_ble_eq_true rfl, Nat.le_of_ble_eq_true rfl⟩ (Nat.le_of_ble_eq_true rfl) (fun a_164 w_164 h_164 ok_164 => ?_)
                                have hj14 : (a_164 = 1 ∧ w_164.1 33 14 = wm.1 33 14 + 1) ∨ (a_164 = 0 ∧ w_164.1 33 14 = wm.1 33 14) := (by rcases h_164 with ⟨q0, q1, q2, q3, q4, q5, q6, q7⟩ | ⟨q0, q1, q2⟩; exact Or.inl ⟨q0, q6⟩; exact Or.inr ⟨q0, q1 _ _ (by omega)⟩)
                                have hj164 : wm.1 33 14 < 6 ∨ a_164 = 0 := (by rcases h_164 with ⟨q0, q1, q2, q3, q4, q5, q6, q7⟩ | ⟨q0, q1, q2⟩; exact Or.inl q1.1; exact Or.inr q0)
                                refine r_istore_n (ls' := [(3, zI a_164), (0, zR 33), (1, zI b), (2, zI n)]) 3 dM_readsHotel_167 rfl (by decide) rfl ?_
                                refine r_goto 141 dM_readsHotel_168 (by decide) ?_
                                exact ih_141 a_164 w_164 (hfm.trans (by rcases h_164 with ⟨q0, q1, q2, q3, q4, q5, q6, q7⟩ | ⟨q0, q1, q2⟩; exact (fun i j z1 z2 => by rw [q7 i j (by omega), if_neg (by omega), if_neg (by omega), if_neg (by omega)]); exact (fun i j z1 z2 => q1 i j (by omega)))) (by omega) (by rcases h_164 with ⟨q0, q1, q2, q3, q4, q5, q6, q7⟩ | ⟨q0, q1, q2⟩; exact Or.inl ⟨q0, hI2.step rfl rfl hj6.1 q1 q2 q3 q4 q5 q6 q7⟩; exact Or.inr ⟨q0, zFl_g a1 a5 hj6.2 a6 (by omega) q2⟩) (by omega)
                      exact L_141 15 ok wl hfr (‹zOk wl› 33 14) (by first | (refine Or.inr ?_; rcases hI with q | q; (exfalso; omega); exact q) | exact Or.inl ⟨by omega, hI1.fin (by omega) (by omega) (by omega)⟩) (by have := ‹zOk wl› 33 14; change 0 ≤ wl.1 33 14 ∧ wl.1 33 14 ≤ 6 at this; omega)
                    · refine r_aload_n 0 1 dM_readsHotel_131 rfl rfl ?_
                      refine r_iload_n 1 2 dM_readsHotel_132 rfl rfl ?_
                      refine r_iload_n 2 3 dM_readsHotel_133 rfl rfl ?_
                      refine r_cVI (cM_readsDoing wl b n c (wl.1 33 13) (by omega) (by omega) (by omega) (by omega) a2 rfl (by omega) (by omega)) qM_readsDoing rfl kw_659 rfl rfl dM_readsHotel_134 (st0 := [zI n, zI b, zR 33]) (st := []) rfl ⟨Nat.le_of_ble_eq_true rfl, Nat.le_of_ble_eq_true rfl⟩ ⟨Nat.le_of_ble_eq_true rfl, Nat.le_of_ble_eq_true rfl⟩ (Nat.le_of_ble_eq_true rfl) (fun a_134 w_134 h_134 ok_134 => ?_)
                      have hk13 : (a_134 = 1 ∧ w_134.1 33 13 = wl.1 33 13 + 1) ∨ (a_134 = 0 ∧ w_134.1 33 13 = wl.1 33 13) := (by rcases h_134 with ⟨q0, q1, q2, q3, q4, q5, q6⟩ | ⟨q0, q1, q2⟩; exact Or.inl ⟨q0, q5⟩; exact Or.inr ⟨q0, q1 _ _ (by omega)⟩)
                      have hk134 : wl.1 33 13 < 4 ∨ a_134 = 0 := (by rcases h_134 with ⟨q0, q1, q2, q3, q4, q5, q6⟩ | ⟨q0, q1, q2⟩; exact Or.inl q1.1; exact Or.inr q0)
                      refine r_istore_n (ls' := [(3, zI a_134), (0, zR 33), (1, zI b), (2, zI n)]) 3 dM_readsHotel_137 rfl (by decide) rfl ?_
                      refine r_goto 109 dM_readsHotel_138 (by decide) ?_
                      exact ih_109 a_134 w_134 (hfr.trans (by rcases h_134 with ⟨q0, q1, q2, q3, q4, q5, q6⟩ | ⟨q0, q1, q2⟩; exact (fun i j z1 z2 => by rw [q6 i j (by omega), if_neg (by omega), if_neg (by omega)]); exact (fun i j z1 z2 => q1 i j (by omega)))) (by omega) (by rcases h_134 with ⟨q0, q1, q2, q3, q4, q5, q6⟩ | ⟨q0, q1, q2⟩; exact Or.inl ⟨q0, hI1.step rfl hk4.1 q1 q2 q3 q4 q5 q6⟩; exact Or.inr ⟨q0, zFl_d a1 hk4.1 hk4.2 a4 (by omega) q2⟩) (by omega)
            exact L_109 11 1 w_93 (by first | exact (fun i j q1 q2 => by rw [ew_93, zput_e, if_neg (by omega), ew_68, zput_e, if_neg (by omega), ew_47, zput_e, if_neg (by omega), ew_12, zput_e, if_neg (by omega), ew_7, zput_e, if_neg (by omega), ew_2, zput_e, if_neg (by omega)]) | exact (fun i j q1 q2 => by rw [ew_93, zput_e, if_neg (by omega), ew_68, zput_e, if_neg (by omega), h_60.1 _ _ (by omega), ew_47, zput_e, if_neg (by omega), ew_12, zput_e, if_neg (by omega), ew_7, zput_e, if_neg (by omega), ew_2, zput_e, if_neg (by omega)]) | exact (fun i j q1 q2 => by rw [ew_93, zput_e, if_neg (by omega), h_85.1 _ _ (by omega), ew_68, zput_e, if_neg (by omega), h_60.1 _ _ (by omega), ew_47, zput_e, if_neg (by omega), ew_12, zput_e, if_neg (by omega), ew_7, zput_e, if_neg (by omega), ew_2, zput_e, if_neg (by omega)]) | (exfalso; omega)) (by have e13 : w_93.1 33 13 = 0 := (by first | rw [ew_93, zput_k _ _ (by decide), ew_68, zput_k _ _ (by decide), ew_47, zput_k _ _ (by decide), ew_12, zput_k _ _ (by decide), ew_7, zput_s] | rw [ew_93, zput_k _ _ (by decide), ew_68, zput_k _ _ (by decide), h_60.1 _ _ (by omega), ew_47, zput_k _ _ (by decide), ew_12, zput_k _ _ (by decide), ew_7, zput_s] | rw [ew_93, zput_k _ _ (by decide), h_85.1 _ _ (by omega), ew_68, zput_k _ _ (by decide), h_60.1 _ _ (by omega), ew_47, zput_k _ _ (by decide), ew_12, zput_k _ _ (by decide), ew_7, zput_s] | (exfalso; omega)); rw [e13]; decide) (by first | (exfalso; omega) | exact Or.inr ⟨rfl, (by have e10 : w_93.1 33 10 = 0 := (by rw [ew_93, zput_k _ _ (by decide), ew_68, zput_k _ _ (by decide), ew_47, zput_s]; omega); rw [e10]; exact zFl_0 (by omega))⟩ | exact Or.inr ⟨rfl, (by have e10 : w_93.1 33 10 = 1 := (by rw [ew_93, zput_k _ _ (by decide), ew_68, zput_k _ _ (by decide)]; omega); rw [e10]; exact zFl_1 (by omega) (by omega))⟩ | exact Or.inr ⟨rfl, (by have e10 : w_93.1 33 10 = 2 := (by rw [ew_93, zput_k _ _ (by decide)]; omega); rw [e10]; exact zFl_2 (by omega) (by omega) (by omega))⟩ | exact Or.inl ⟨rfl, (by have e13 : w_93.1 33 13 = 0 := (by rw [ew_93, zput_k _ _ (by decide), h_85.1 _ _ (by omega), ew_68, zput_k _ _ (by decide), h_60.1 _ _ (by omega), ew_47, zput_k _ _ (by decide), ew_12, zput_k _ _ (by decide), ew_7, zput_s]); have e10 : w_93.1 33 10 = 3 := (by rw [ew_93, zput_k _ _ (by decide)]; omega); have e14 : w_93.1 33 14 = 0 := (by rw [ew_93, zput_k _ _ (by decide), h_85.1 _ _ (by omega), ew_68, zput_k _ _ (by decide), h_60.1 _ _ (by omega), ew_47, zput_k _ _ (by decide), ew_12, zput_s]); have e11 : w_93.1 33 11 = a_60 := (by rw [ew_93, zput_k _ _ (by decide), h_85.1 _ _ (by omega), ew_68, zput_s]); have e12 : w_93.1 33 12 = a_85 := (by rw [ew_93, zput_s]); unfold zI1; rw [e13]; exact ⟨⟨by omega, by omega, by omega⟩, zRS.fr hT3 (fun q => by rw [ew_93, zput_i _ _ _ _ (by decide)]) (by omega), by omega, rfl, e14, by omega, by omega, fun d d0 d1 => absurd d1 (by omega)⟩)⟩) (by have e13 : w_93.1 33 13 = 0 := (by first | rw [ew_93, zput_k _ _ (by decide), ew_68, zput_k _ _ (by decide), ew_47, zput_k _ _ (by decide), ew_12, zput_k _ _ (by decide), ew_7, zput_s] | rw [ew_93, zput_k _ _ (by decide), ew_68, zput_k _ _ (by decide), h_60.1 _ _ (by omega), ew_47, zput_k _ _ (by decide), ew_12, zput_k _ _ (by decide), ew_7, zput_s] | rw [ew_93, zput_k _ _ (by decide), h_85.1 _ _ (by omega), ew_68, zput_k _ _ (by decide), h_60.1 _ _ (by omega), ew_47, zput_k _ _ (by decide), ew_12, zput_k _ _ (by decide), ew_7, zput_s] | (exfalso; omega)); rw [e13]; decide)
        · first | have hT2 : zRS w_68 b c 2 := (zRS.fr hT1 (p' := 2) (w' := w_60) (fun q => h_60.1 _ _ (by omega)) (by omega)).fr (fun q => by rw [ew_68, zput_i _ _ _ _ (by decide)]) (by rw [ew_68, zput_k _ _ (by decide)]; omega) | skip
          refine r_aload_n 0 1 dM_readsHotel_79 rfl rfl ?_
          refine r_iload_n 1 2 dM_readsHotel_80 rfl rfl ?_
          refine r_iload_n 2 3 dM_readsHotel_81 rfl rfl ?_
          refine r_iconst dM_readsHotel_82 ?_
          refine r_bipush dM_readsHotel_83 (by decide) ?_
          refine r_cVI (cM_figure w_68 b n 1 9 c 2 (by omega) (by omega) (by omega) (by omega) (by first | (exfalso; omega) | exact hT2) (by omega) (by omega) (by omega) (by omega)) qM_figure rfl kw_655 rfl rfl dM_readsHotel_85 (st0 := [zI 9, zI 1, zI n, zI b, zR 33, zR 33]) (st := [zR 33]) rfl ⟨Nat.le_of_ble_eq_true rfl, Nat.le_of_ble_eq_true rfl⟩ ⟨Nat.le_of_ble_eq_true rfl, Nat.le_of_ble_eq_true rfl⟩ (Nat.le_of_ble_eq_true rfl) (fun a_85 w_85 h_85 ok_85 => ?_)
          first | have hT3 : zRS w_85 b c (w_85.1 33 10) := zRS.fr hT2 (fun q => h_85.1 _ _ (by omega)) rfl | skip
          refine r_goto 93 dM_readsHotel_88 (by decide) ?_
          refine r_putI (k := 12) fX7 rfl rfl (by decide) kw_517 rfl rfl (by decide +kernel) 12 rfl dM_readsHotel_93 rfl (by omega) (by omega) (fun w_93 ew_93 => ?_)
          refine r_aload_n 0 1 dM_readsHotel_96 rfl rfl ?_
          refine r_getI (k := 12) fX7 rfl rfl (by decide) kw_517 rfl 12 rfl dM_readsHotel_97 rfl (fun y_97 ey_97 ly_97 uy_97 => ?_)
          rw [ew_93, zput_s] at ey_97
          refine r_if_le 107 dM_readsHotel_100 (by decide) ⟨by omega, by omega⟩ (fun c_100 => ?_) (fun c_100 => ?_)
          · refine r_iconst dM_readsHotel_107 ?_
            refine r_istore_n (ls' := [(3, zI 0), (0, zR 33), (1, zI b), (2, zI n)]) 3 dM_readsHotel_108 rfl (by decide) rfl ?_
            have L_109 : ∀ (n_109 : Nat) (ok : Int) (wl : zW) (hfr : zFr5 w wl) (hk4 : 0 ≤ wl.1 33 13 ∧ wl.1 33 13 ≤ 4) (hI : (ok = 1 ∧ zI1 wl b c n) ∨ (ok = 0 ∧ zFl c n (wl.1 33 10))), 6 * ok + 4 - wl.1 33 13 < (n_109 : Int) → zM mM_readsHotel (zZm 3 (zrI fun a w' => zFr5 w w' ∧ ((a = 1 ∧ zTx c n = (true, n, w'.1 33 13, w'.1 33 14) ∧ zI2 w' b c n ∧ 2 ≤ w'.1 33 14) ∨ (a = 0 ∧ zFl c n (w'.1 33 10))))) 109 [(3, zI ok), (0, zR 33), (1, zI b), (2, zI n)] [] wl := by
              intro n_109
              induction n_109 with
              | zero => intro ok wl hfr hk4 hI hm_109; exfalso; omega
              | succ n_109 ih_109 =>
                intro ok wl hfr hk4 hI hm_109
                refine r_ok (fun hOl => ?_)
                refine r_iload_n 3 0 dM_readsHotel_109 rfl rfl ?_
                refine r_if_eq 141 dM_readsHotel_110 (by decide) ⟨by omega, by omega⟩ (fun c_110 => ?_) (fun c_110 => ?_)
                · have L_141 : ∀ (n_141 : Nat) (ok : Int) (wm : zW) (hfm : zFr5 w wm) (hj6 : 0 ≤ wm.1 33 14 ∧ wm.1 33 14 ≤ 6) (hJ : (ok = 1 ∧ zI2 wm b c n) ∨ (ok = 0 ∧ zFl c n (wm.1 33 10))), 8 * ok + 6 - wm.1 33 14 < (n_141 : Int) → zM mM_readsHotel (zZm 3 (zrI fun a w' => zFr5 w w' ∧ ((a = 1 ∧ zTx c n = (true, n, w'.1 33 13, w'.1 33 14) ∧ zI2 w' b c n ∧ 2 ≤ w'.1 33 14) ∨ (a = 0 ∧ zFl c n (w'.1 33 10))))) 141 [(3, zI ok), (0, zR 33), (1, zI b), (2, zI n)] [] wm := by
                    intro n_141
                    induction n_141 with
                    | zero => intro ok wm hfm hj6 hJ hm_141; exfalso; omega
                    | succ n_141 ih_141 =>
                      intro ok wm hfm hj6 hJ hm_141
                      refine r_ok (fun hOm => ?_)
                      refine r_iload_n 3 0 dM_readsHotel_141 rfl rfl ?_
                      refine r_if_eq 171 dM_readsHotel_142 (by decide) ⟨by omega, by omega⟩ (fun c_142 => ?_) (fun c_142 => ?_)
                      · refine r_iload_n 3 0 dM_readsHotel_171 rfl rfl ?_
                        refine r_zret rfl (by omega) dM_readsHotel_172 ⟨_, rfl, ?_⟩
                        exact ⟨hfm, by first | (refine Or.inr ?_; rcases hJ with q | q; (exfalso; omega); exact q) | exact Or.inl ⟨by omega, hI2.fin (by omega) hj6.2 (by omega), hI2, by omega⟩⟩
                      · obtain ⟨_, a1, a2, a3, a4, a5, a6, a7, a8, a9, a10⟩ : ok = 1 ∧ zI2 wm b c n := (by rcases hJ with q | q; exact q; exact absurd q.1 (by omega))
                        have hI2 : zI2 wm b c n := ⟨a1, a2, a3, a4, a5, a6, a7, a8, a9, a10⟩
                        have hp10 := a2.2
                        refine r_aload_n 0 1 dM_readsHotel_145 rfl rfl ?_
                        refine r_getI (k := 14) fX7 rfl rfl (by decide) kw_519 rfl 14 rfl dM_readsHotel_146 rfl (fun y_146 ey_146 ly_146 uy_146 => ?_)
                        refine r_iconst dM_readsHotel_149 ?_
                        refine r_ic_lt 161 dM_readsHotel_150 (by decide) ⟨by omega, by omega⟩ ⟨by omega, by omega⟩ (fun c_150 => ?_) (fun c_150 => ?_)
                        · refine r_aload_n 0 1 dM_readsHotel_161 rfl rfl ?_
                          refine r_iload_n 1 2 dM_readsHotel_162 rfl rfl ?_
                          refine r_iload_n 2 3 dM_readsHotel_163 rfl rfl ?_
                          refine r_cVI (cM_readsGuest wm b n c (wm.1 33 13) (wm.1 33 14) (by omega) (by omega) (by omega) (by omega) a2 rfl (by omega) (by omega) rfl (by omega) (by omega)) qM_readsGuest rfl kw_663 rfl rfl dM_readsHotel_164 (st0 := [zI n, zI b, zR 33]) (st := []) rfl ⟨Nat.le_of_ble_eq_true rfl, Nat.le_of_ble_eq_true rfl⟩ ⟨Nat.le_of_ble_eq_true rfl, Nat.le_of_ble_eq_true rfl⟩ (Nat.le_of_ble_eq_true rfl) (fun a_164 w_164 h_164 ok_164 => ?_)
                          have hj14 : (a_164 = 1 ∧ w_164.1 33 14 = wm.1 33 14 + 1) ∨ (a_164 = 0 ∧ w_164.1 33 14 = wm.1 33 14) := (by rcases h_164 with ⟨q0, q1, q2, q3, q4, q5, q6, q7⟩ | ⟨q0, q1, q2⟩; exact Or.inl ⟨q0, q6⟩; exact Or.inr ⟨q0, q1 _ _ (by omega)⟩)
                          have hj164 : wm.1 33 14 < 6 ∨ a_164 = 0 := (by rcases h_164 with ⟨q0, q1, q2, q3, q4, q5, q6, q7⟩ | ⟨q0, q1, q2⟩; exact Or.inl q1.1; exact Or.inr q0)
                          refine r_istore_n (ls' := [(3, zI a_164), (0, zR 33), (1, zI b), (2, zI n)]) 3 dM_readsHotel_167 rfl (by decide) rfl ?_
                          refine r_goto 141 dM_readsHotel_168 (by decide) ?_
                          exact ih_141 a_164 w_164 (hfm.trans (by rcases h_164 with ⟨q0, q1, q2, q3, q4, q5, q6, q7⟩ | ⟨q0, q1, q2⟩; exact (fun i j z1 z2 => by rw [q7 i j (by omega), if_neg (by omega), if_neg (by omega), if_neg (by omega)]); exact (fun i j z1 z2 => q1 i j (by omega)))) (by omega) (by rcases h_164 with ⟨q0, q1, q2, q3, q4, q5, q6, q7⟩ | ⟨q0, q1, q2⟩; exact Or.inl ⟨q0, hI2.step rfl rfl hj6.1 q1 q2 q3 q4 q5 q6 q7⟩; exact Or.inr ⟨q0, zFl_g a1 a5 hj6.2 a6 (by omega) q2⟩) (by omega)
                        · refine r_aload_n 0 1 dM_readsHotel_153 rfl rfl ?_
                          refine r_getI (k := 10) fX7 rfl rfl (by decide) kw_515 rfl 10 rfl dM_readsHotel_154 rfl (fun y_154 ey_154 ly_154 uy_154 => ?_)
                          refine r_iload_n 2 3 dM_readsHotel_157 rfl rfl ?_
                          refine r_ic_ge 171 dM_readsHotel_158 (by decide) ⟨by omega, by omega⟩ ⟨by omega, by omega⟩ (fun c_158 => ?_) (fun c_158 => ?_)
                          · refine r_iload_n 3 0 dM_readsHotel_171 rfl rfl ?_
                            refine r_zret rfl (by omega) dM_readsHotel_172 ⟨_, rfl, ?_⟩
                            exact ⟨hfm, by first | (refine Or.inr ?_; rcases hJ with q | q; (exfalso; omega); exact q) | exact Or.inl ⟨by omega, hI2.fin (by omega) hj6.2 (by omega), hI2, by omega⟩⟩
                          · refine r_aload_n 0 1 dM_readsHotel_161 rfl rfl ?_
                            refine r_iload_n 1 2 dM_readsHotel_162 rfl rfl ?_
                            refine r_iload_n 2 3 dM_readsHotel_163 rfl rfl ?_
                            refine r_cVI (cM_readsGuest wm b n c (wm.1 33 13) (wm.1 33 14) (by omega) (by omega) (by omega) (by omega) a2 rfl (by omega) (by omega) rfl (by omega) (by omega)) qM_readsGuest rfl kw_663 rfl rfl dM_readsHotel_164 (st0 := [zI n, zI b, zR 33]) (st := []) rfl ⟨Nat.le_of_ble_eq_true rfl, Nat.le_of_ble_eq_true rfl⟩ ⟨Nat.le_of_ble_eq_true rfl, Nat.le_of_ble_eq_true rfl⟩ (Nat.le_of_ble_eq_true rfl) (fun a_164 w_164 h_164 ok_164 => ?_)
                            have hj14 : (a_164 = 1 ∧ w_164.1 33 14 = wm.1 33 14 + 1) ∨ (a_164 = 0 ∧ w_164.1 33 14 = wm.1 33 14) := (by rcases h_164 with ⟨q0, q1, q2, q3, q4, q5, q6, q7⟩ | ⟨q0, q1, q2⟩; exact Or.inl ⟨q0, q6⟩; exact Or.inr ⟨q0, q1 _ _ (by omega)⟩)
                            have hj164 : wm.1 33 14 < 6 ∨ a_164 = 0 := (by rcases h_164 with ⟨q0, q1, q2, q3, q4, q5, q6, q7⟩ | ⟨q0, q1, q2⟩; exact Or.inl q1.1; exact Or.inr q0)
                            refine r_istore_n (ls' := [(3, zI a_164), (0, zR 33), (1, zI b), (2, zI n)]) 3 dM_readsHotel_167 rfl (by decide) rfl ?_
                            refine r_goto 141 dM_readsHotel_168 (by decide) ?_
                            exact ih_141 a_164 w_164 (hfm.trans (by rcases h_164 with ⟨q0, q1, q2, q3, q4, q5, q6, q7⟩ | ⟨q0, q1, q2⟩; exact (fun i j z1 z2 => by rw [q7 i j (by omega), if_neg (by omega), if_neg (by omega), if_neg (by omega)]); exact (fun i j z1 z2 => q1 i j (by omega)))) (by omega) (by rcases h_164 with ⟨q0, q1, q2, q3, q4, q5, q6, q7⟩ | ⟨q0, q1, q2⟩; exact Or.inl ⟨q0, hI2.step rfl rfl hj6.1 q1 q2 q3 q4 q5 q6 q7⟩; exact Or.inr ⟨q0, zFl_g a1 a5 hj6.2 a6 (by omega) q2⟩) (by omega)
                  exact L_141 15 ok wl hfr (‹zOk wl› 33 14) (by first | (refine Or.inr ?_; rcases hI with q | q; (exfalso; omega); exact q) | exact Or.inl ⟨by omega, hI1.fin (by omega) (by omega) (by omega)⟩) (by have := ‹zOk wl› 33 14; change 0 ≤ wl.1 33 14 ∧ wl.1 33 14 ≤ 6 at this; omega)
                · obtain ⟨_, a1, a2, a3, a4, a5, a6, a7, a8⟩ : ok = 1 ∧ zI1 wl b c n := (by rcases hI with q | q; exact q; exact absurd q.1 (by omega))
                  have hI1 : zI1 wl b c n := ⟨a1, a2, a3, a4, a5, a6, a7, a8⟩
                  refine r_aload_n 0 1 dM_readsHotel_113 rfl rfl ?_
                  refine r_getI (k := 13) fX7 rfl rfl (by decide) kw_518 rfl 13 rfl dM_readsHotel_114 rfl (fun y_114 ey_114 ly_114 uy_114 => ?_)
                  refine r_if_eq 131 dM_readsHotel_117 (by decide) ⟨by omega, by omega⟩ (fun c_117 => ?_) (fun c_117 => ?_)
                  · refine r_aload_n 0 1 dM_readsHotel_131 rfl rfl ?_
                    refine r_iload_n 1 2 dM_readsHotel_132 rfl rfl ?_
                    refine r_iload_n 2 3 dM_readsHotel_133 rfl rfl ?_
                    refine r_cVI (cM_readsDoing wl b n c (wl.1 33 13) (by omega) (by omega) (by omega) (by omega) a2 rfl (by omega) (by omega)) qM_readsDoing rfl kw_659 rfl rfl dM_readsHotel_134 (st0 := [zI n, zI b, zR 33]) (st := []) rfl ⟨Nat.le_of_ble_eq_true rfl, Nat.le_of_ble_eq_true rfl⟩ ⟨Nat.le_of_ble_eq_true rfl, Nat.le_of_ble_eq_true rfl⟩ (Nat.le_of_ble_eq_true rfl) (fun a_134 w_134 h_134 ok_134 => ?_)
                    have hk13 : (a_134 = 1 ∧ w_134.1 33 13 = wl.1 33 13 + 1) ∨ (a_134 = 0 ∧ w_134.1 33 13 = wl.1 33 13) := (by rcases h_134 with ⟨q0, q1, q2, q3, q4, q5, q6⟩ | ⟨q0, q1, q2⟩; exact Or.inl ⟨q0, q5⟩; exact Or.inr ⟨q0, q1 _ _ (by omega)⟩)
                    have hk134 : wl.1 33 13 < 4 ∨ a_134 = 0 := (by rcases h_134 with ⟨q0, q1, q2, q3, q4, q5, q6⟩ | ⟨q0, q1, q2⟩; exact Or.inl q1.1; exact Or.inr q0)
                    refine r_istore_n (ls' := [(3, zI a_134), (0, zR 33), (1, zI b), (2, zI n)]) 3 dM_readsHotel_137 rfl (by decide) rfl ?_
                    refine r_goto 109 dM_readsHotel_138 (by decide) ?_
                    exact ih_109 a_134 w_134 (hfr.trans (by rcases h_134 with ⟨q0, q1, q2, q3, q4, q5, q6⟩ | ⟨q0, q1, q2⟩; exact (fun i j z1 z2 => by rw [q6 i j (by omega), if_neg (by omega), if_neg (by omega)]); exact (fun i j z1 z2 => q1 i j (by omega)))) (by omega) (by rcases h_134 with ⟨q0, q1, q2, q3, q4, q5, q6⟩ | ⟨q0, q1, q2⟩; exact Or.inl ⟨q0, hI1.step rfl hk4.1 q1 q2 q3 q4 q5 q6⟩; exact Or.inr ⟨q0, zFl_d a1 hk4.1 hk4.2 a4 (by omega) q2⟩) (by omega)
                  · refine r_aload_n 0 1 dM_readsHotel_120 rfl rfl ?_
                    refine r_iload_n 1 2 dM_readsHotel_121 rfl rfl ?_
                    refine r_iload_n 2 3 dM_readsHotel_122 rfl rfl ?_
                    refine r_cVI (cM_codeAt wl b n c (3 + 3 * wl.1 33 13) (by omega) (by omega) (by omega) (by omega) a2) qM_codeAt rfl kw_651 rfl rfl dM_readsHotel_123 (st0 := [zI n, zI b, zR 33]) (st := []) rfl ⟨Nat.le_of_ble_eq_true rfl, Nat.le_of_ble_eq_true rfl⟩ ⟨Nat.le_of_ble_eq_true rfl, Nat.le_of_ble_eq_true rfl⟩ (Nat.le_of_ble_eq_true rfl) (fun a_123 w_123 h_123 ok_123 => ?_)
                    obtain ⟨rfl, h_123⟩ := h_123
                    refine r_bipush dM_readsHotel_126 (by decide) ?_
                    refine r_ic_ne 141 dM_readsHotel_128 (by decide) ⟨by omega, by omega⟩ ⟨by omega, by omega⟩ (fun c_128 => ?_) (fun c_128 => ?_)
                    · have L_141 : ∀ (n_141 : Nat) (ok : Int) (wm : zW) (hfm : zFr5 w wm) (hj6 : 0 ≤ wm.1 33 14 ∧ wm.1 33 14 ≤ 6) (hJ : (ok = 1 ∧ zI2 wm b c n) ∨ (ok = 0 ∧ zFl c n (wm.1 33 10))), 8 * ok + 6 - wm.1 33 14 < (n_141 : Int) → zM mM_readsHotel (zZm 3 (zrI fun a w' => zFr5 w w' ∧ ((a = 1 ∧ zTx c n = (true, n, w'.1 33 13, w'.1 33 14) ∧ zI2 w' b c n ∧ 2 ≤ w'.1 33 14) ∨ (a = 0 ∧ zFl c n (w'.1 33 10))))) 141 [(3, zI ok), (0, zR 33), (1, zI b), (2, zI n)] [] wm := by
                        intro n_141
                        induction n_141 with
                        | zero => intro ok wm hfm hj6 hJ hm_141; exfalso; omega
                        | succ n_141 ih_141 =>
                          intro ok wm hfm hj6 hJ hm_141
                          refine r_ok (fun hOm => ?_)
                          refine r_iload_n 3 0 dM_readsHotel_141 rfl rfl ?_
                          refine r_if_eq 171 dM_readsHotel_142 (by decide) ⟨by omega, by omega⟩ (fun c_142 => ?_) (fun c_142 => ?_)
                          · refine r_iload_n 3 0 dM_readsHotel_171 rfl rfl ?_
                            refine r_zret rfl (by omega) dM_readsHotel_172 ⟨_, rfl, ?_⟩
                            exact ⟨hfm, by first | (refine Or.inr ?_; rcases hJ with q | q; (exfalso; omega); exact q) | exact Or.inl ⟨by omega, hI2.fin (by omega) hj6.2 (by omega), hI2, by omega⟩⟩
                          · obtain ⟨_, a1, a2, a3, a4, a5, a6, a7, a8, a9, a10⟩ : ok = 1 ∧ zI2 wm b c n := (by rcases hJ with q | q; exact q; exact absurd q.1 (by omega))
                            have hI2 : zI2 wm b c n := ⟨a1, a2, a3, a4, a5, a6, a7, a8, a9, a10⟩
                            have hp10 := a2.2
                            refine r_aload_n 0 1 dM_readsHotel_145 rfl rfl ?_
                            refine r_getI (k := 14) fX7 rfl rfl (by decide) kw_519 rfl 14 rfl dM_readsHotel_146 rfl (fun y_146 ey_146 ly_146 uy_146 => ?_)
                            refine r_iconst dM_readsHotel_149 ?_
                            refine r_ic_lt 161 dM_readsHotel_150 (by decide) ⟨by omega, by omega⟩ ⟨by omega, by omega⟩ (fun c_150 => ?_) (fun c_150 => ?_)
                            · refine r_aload_n 0 1 dM_readsHotel_161 rfl rfl ?_
                              refine r_iload_n 1 2 dM_readsHotel_162 rfl rfl ?_
                              refine r_iload_n 2 3 dM_readsHotel_163 rfl rfl ?_
                              refine r_cVI (cM_readsGuest wm b n c (wm.1 33 13) (wm.1 33 14) (by omega) (by omega) (by omega) (by omega) a2 rfl (by omega) (by omega) rfl (by omega) (by omega)) qM_readsGuest rfl kw_663 rfl rfl dM_readsHotel_164 (st0 := [zI n, zI b, zR 33]) (st := []) rfl ⟨Nat.le_of_ble_eq_true rfl, Nat.le_of_ble_eq_true rfl⟩ ⟨Nat.le_of_ble_eq_true rfl, Nat.le_of_ble_eq_true rfl⟩ (Nat.le_of_ble_eq_true rfl) (fun a_164 w_164 h_164 ok_164 => ?_)
                              have hj14 : (a_164 = 1 ∧ w_164.1 33 14 = wm.1 33 14 + 1) ∨ (a_164 = 0 ∧ w_164.1 33 14 = wm.1 33 14) := (by rcases h_164 with ⟨q0, q1, q2, q3, q4, q5, q6, q7⟩ | ⟨q0, q1, q2⟩; exact Or.inl ⟨q0, q6⟩; exact Or.inr ⟨q0, q1 _ _ (by omega)⟩)
                              have hj164 : wm.1 33 14 < 6 ∨ a_164 = 0 := (by rcases h_164 with ⟨q0, q1, q2, q3, q4, q5, q6, q7⟩ | ⟨q0, q1, q2⟩; exact Or.inl q1.1; exact Or.inr q0)
                              refine r_istore_n (ls' := [(3, zI a_164), (0, zR 33), (1, zI b), (2, zI n)]) 3 dM_readsHotel_167 rfl (by decide) rfl ?_
                              refine r_goto 141 dM_readsHotel_168 (by decide) ?_
                              exact ih_141 a_164 w_164 (hfm.trans (by rcases h_164 with ⟨q0, q1, q2, q3, q4, q5, q6, q7⟩ | ⟨q0, q1, q2⟩; exact (fun i j z1 z2 => by rw [q7 i j (by omega), if_neg (by omega), if_neg (by omega), if_neg (by omega)]); exact (fun i j z1 z2 => q1 i j (by omega)))) (by omega) (by rcases h_164 with ⟨q0, q1, q2, q3, q4, q5, q6, q7⟩ | ⟨q0, q1, q2⟩; exact Or.inl ⟨q0, hI2.step rfl rfl hj6.1 q1 q2 q3 q4 q5 q6 q7⟩; exact Or.inr ⟨q0, zFl_g a1 a5 hj6.2 a6 (by omega) q2⟩) (by omega)
                            · refine r_aload_n 0 1 dM_readsHotel_153 rfl rfl ?_
                              refine r_getI (k := 10) fX7 rfl rfl (by decide) kw_515 rfl 10 rfl dM_readsHotel_154 rfl (fun y_154 ey_154 ly_154 uy_154 => ?_)
                              refine r_iload_n 2 3 dM_readsHotel_157 rfl rfl ?_
                              refine r_ic_ge 171 dM_readsHotel_158 (by decide) ⟨by omega, by omega⟩ ⟨by omega, by omega⟩ (fun c_158 => ?_) (fun c_158 => ?_)
                              · refine r_iload_n 3 0 dM_readsHotel_171 rfl rfl ?_
                                refine r_zret rfl (by omega) dM_readsHotel_172 ⟨_, rfl, ?_⟩
                                exact ⟨hfm, by first | (refine Or.inr ?_; rcases hJ with q | q; (exfalso; omega); exact q) | exact Or.inl ⟨by omega, hI2.fin (by omega) hj6.2 (by omega), hI2, by omega⟩⟩
                              · refine r_aload_n 0 1 dM_readsHotel_161 rfl rfl ?_
                                refine r_iload_n 1 2 dM_readsHotel_162 rfl rfl ?_
                                refine r_iload_n 2 3 dM_readsHotel_163 rfl rfl ?_
                                refine r_cVI (cM_readsGuest wm b n c (wm.1 33 13) (wm.1 33 14) (by omega) (by omega) (by omega) (by omega) a2 rfl (by omega) (by omega) rfl (by omega) (by omega)) qM_readsGuest rfl kw_663 rfl rfl dM_readsHotel_164 (st0 := [zI n, zI b, zR 33]) (st := []) rfl ⟨Nat.le_of_ble_eq_true rfl, Nat.le_of_ble_eq_true rfl⟩ ⟨Nat.le_of_ble_eq_true rfl, Nat.le_of_ble_eq_true rfl⟩ (Nat.le_of_ble_eq_true rfl) (fun a_164 w_164 h_164 ok_164 => ?_)
                                have hj14 : (a_164 = 1 ∧ w_164.1 33 14 = wm.1 33 14 + 1) ∨ (a_164 = 0 ∧ w_164.1 33 14 = wm.1 33 14) := (by rcases h_164 with ⟨q0, q1, q2, q3, q4, q5, q6, q7⟩ | ⟨q0, q1, q2⟩; exact Or.inl ⟨q0, q6⟩; exact Or.inr ⟨q0, q1 _ _ (by omega)⟩)
                                have hj164 : wm.1 33 14 < 6 ∨ a_164 = 0 := (by rcases h_164 with ⟨q0, q1, q2, q3, q4, q5, q6, q7⟩ | ⟨q0, q1, q2⟩; exact Or.inl q1.1; exact Or.inr q0)
                                refine r_istore_n (ls' := [(3, zI a_164), (0, zR 33), (1, zI b), (2, zI n)]) 3 dM_readsHotel_167 rfl (by decide) rfl ?_
                                refine r_goto 141 dM_readsHotel_168 (by decide) ?_
                                exact ih_141 a_164 w_164 (hfm.trans (by rcases h_164 with ⟨q0, q1, q2, q3, q4, q5, q6, q7⟩ | ⟨q0, q1, q2⟩; exact (fun i j z1 z2 => by rw [q7 i j (by omega), if_neg (by omega), if_neg (by omega), if_neg (by omega)]); exact (fun i j z1 z2 => q1 i j (by omega)))) (by omega) (by rcases h_164 with ⟨q0, q1, q2, q3, q4, q5, q6, q7⟩ | ⟨q0, q1, q2⟩; exact Or.inl ⟨q0, hI2.step rfl rfl hj6.1 q1 q2 q3 q4 q5 q6 q7⟩; exact Or.inr ⟨q0, zFl_g a1 a5 hj6.2 a6 (by omega) q2⟩) (by omega)
                      exact L_141 15 ok wl hfr (‹zOk wl› 33 14) (by first | (refine Or.inr ?_; rcases hI with q | q; (exfalso; omega); exact q) | exact Or.inl ⟨by omega, hI1.fin (by omega) (by omega) (by omega)⟩) (by have := ‹zOk wl› 33 14; change 0 ≤ wl.1 33 14 ∧ wl.1 33 14 ≤ 6 at this; omega)
                    · refine r_aload_n 0 1 dM_readsHotel_131 rfl rfl ?_
                      refine r_iload_n 1 2 dM_readsHotel_132 rfl rfl ?_
                      refine r_iload_n 2 3 dM_readsHotel_133 rfl rfl ?_
                      refine r_cVI (cM_readsDoing wl b n c (wl.1 33 13) (by omega) (by omega) (by omega) (by omega) a2 rfl (by omega) (by omega)) qM_readsDoing rfl kw_659 rfl rfl dM_readsHotel_134 (st0 := [zI n, zI b, zR 33]) (st := []) rfl ⟨Nat.le_of_ble_eq_true rfl, Nat.le_of_ble_eq_true rfl⟩ ⟨Nat.le_of_ble_eq_true rfl, Nat.le_of_ble_eq_true rfl⟩ (Nat.le_of_ble_eq_true rfl) (fun a_134 w_134 h_134 ok_134 => ?_)
                      have hk13 : (a_134 = 1 ∧ w_134.1 33 13 = wl.1 33 13 + 1) ∨ (a_134 = 0 ∧ w_134.1 33 13 = wl.1 33 13) := (by rcases h_134 with ⟨q0, q1, q2, q3, q4, q5, q6⟩ | ⟨q0, q1, q2⟩; exact Or.inl ⟨q0, q5⟩; exact Or.inr ⟨q0, q1 _ _ (by omega)⟩)
                      have hk134 : wl.1 33 13 < 4 ∨ a_134 = 0 := (by rcases h_134 with ⟨q0, q1, q2, q3, q4, q5, q6⟩ | ⟨q0, q1, q2⟩; exact Or.inl q1.1; exact Or.inr q0)
                      refine r_istore_n (ls' := [(3, zI a_134), (0, zR 33), (1, zI b), (2, zI n)]) 3 dM_readsHotel_137 rfl (by decide) rfl ?_
                      refine r_goto 109 dM_readsHotel_138 (by decide) ?_
                      exact ih_109 a_134 w_134 (hfr.trans (by rcases h_134 with ⟨q0, q1, q2, q3, q4, q5, q6⟩ | ⟨q0, q1, q2⟩; exact (fun i j z1 z2 => by rw [q6 i j (by omega), if_neg (by omega), if_neg (by omega)]); exact (fun i j z1 z2 => q1 i j (by omega)))) (by omega) (by rcases h_134 with ⟨q0, q1, q2, q3, q4, q5, q6⟩ | ⟨q0, q1, q2⟩; exact Or.inl ⟨q0, hI1.step rfl hk4.1 q1 q2 q3 q4 q5 q6⟩; exact Or.inr ⟨q0, zFl_d a1 hk4.1 hk4.2 a4 (by omega) q2⟩) (by omega)
            exact L_109 11 0 w_93 (by first | exact (fun i j q1 q2 => by rw [ew_93, zput_e, if_neg (by omega), ew_68, zput_e, if_neg (by omega), ew_47, zput_e, if_neg (by omega), ew_12, zput_e, if_neg (by omega), ew_7, zput_e, if_neg (by omega), ew_2, zput_e, if_neg (by omega)]) | exact (fun i j q1 q2 => by rw [ew_93, zput_e, if_neg (by omega), ew_68, zput_e, if_neg (by omega), h_60.1 _ _ (by omega), ew_47, zput_e, if_neg (by omega), ew_12, zput_e, if_neg (by omega), ew_7, zput_e, if_neg (by omega), ew_2, zput_e, if_neg (by omega)]) | exact (fun i j q1 q2 => by rw [ew_93, zput_e, if_neg (by omega), h_85.1 _ _ (by omega), ew_68, zput_e, if_neg (by omega), h_60.1 _ _ (by omega), ew_47, zput_e, if_neg (by omega), ew_12, zput_e, if_neg (by omega), ew_7, zput_e, if_neg (by omega), ew_2, zput_e, if_neg (by omega)]) | (exfalso; omega)) (by have e13 : w_93.1 33 13 = 0 := (by first | rw [ew_93, zput_k _ _ (by decide), ew_68, zput_k _ _ (by decide), ew_47, zput_k _ _ (by decide), ew_12, zput_k _ _ (by decide), ew_7, zput_s] | rw [ew_93, zput_k _ _ (by decide), ew_68, zput_k _ _ (by decide), h_60.1 _ _ (by omega), ew_47, zput_k _ _ (by decide), ew_12, zput_k _ _ (by decide), ew_7, zput_s] | rw [ew_93, zput_k _ _ (by decide), h_85.1 _ _ (by omega), ew_68, zput_k _ _ (by decide), h_60.1 _ _ (by omega), ew_47, zput_k _ _ (by decide), ew_12, zput_k _ _ (by decide), ew_7, zput_s] | (exfalso; omega)); rw [e13]; decide) (by first | (exfalso; omega) | exact Or.inr ⟨rfl, (by have e10 : w_93.1 33 10 = 0 := (by rw [ew_93, zput_k _ _ (by decide), ew_68, zput_k _ _ (by decide), ew_47, zput_s]; omega); rw [e10]; exact zFl_0 (by omega))⟩ | exact Or.inr ⟨rfl, (by have e10 : w_93.1 33 10 = 1 := (by rw [ew_93, zput_k _ _ (by decide), ew_68, zput_k _ _ (by decide)]; omega); rw [e10]; exact zFl_1 (by omega) (by omega))⟩ | exact Or.inr ⟨rfl, (by have e10 : w_93.1 33 10 = 2 := (by rw [ew_93, zput_k _ _ (by decide)]; omega); rw [e10]; exact zFl_2 (by omega) (by omega) (by omega))⟩ | exact Or.inl ⟨rfl, (by have e13 : w_93.1 33 13 = 0 := (by rw [ew_93, zput_k _ _ (by decide), h_85.1 _ _ (by omega), ew_68, zput_k _ _ (by decide), h_60.1 _ _ (by omega), ew_47, zput_k _ _ (by decide), ew_12, zput_k _ _ (by decide), ew_7, zput_s]); have e10 : w_93.1 33 10 = 3 := (by rw [ew_93, zput_k _ _ (by decide)]; omega); have e14 : w_93.1 33 14 = 0 := (by rw [ew_93, zput_k _ _ (by decide), h_85.1 _ _ (by omega), ew_68, zput_k _ _ (by decide), h_60.1 _ _ (by omega), ew_47, zput_k _ _ (by decide), ew_12, zput_s]); have e11 : w_93.1 33 11 = a_60 := (by rw [ew_93, zput_k _ _ (by decide), h_85.1 _ _ (by omega), ew_68, zput_s]); have e12 : w_93.1 33 12 = a_85 := (by rw [ew_93, zput_s]); unfold zI1; rw [e13]; exact ⟨⟨by omega, by omega, by omega⟩, zRS.fr hT3 (fun q => by rw [ew_93, zput_i _ _ _ _ (by decide)]) (by omega), by omega, rfl, e14, by omega, by omega, fun d d0 d1 => absurd d1 (by omega)⟩)⟩) (by have e13 : w_93.1 33 13 = 0 := (by first | rw [ew_93, zput_k _ _ (by decide), ew_68, zput_k _ _ (by decide), ew_47, zput_k _ _ (by decide), ew_12, zput_k _ _ (by decide), ew_7, zput_s] | rw [ew_93, zput_k _ _ (by decide), ew_68, zput_k _ _ (by decide), h_60.1 _ _ (by omega), ew_47, zput_k _ _ (by decide), ew_12, zput_k _ _ (by decide), ew_7, zput_s] | rw [ew_93, zput_k _ _ (by decide), h_85.1 _ _ (by omega), ew_68, zput_k _ _ (by decide), h_60.1 _ _ (by omega), ew_47, zput_k _ _ (by decide), ew_12, zput_k _ _ (by decide), ew_7, zput_s] | (exfalso; omega)); rw [e13]; decide)
          · refine r_iconst dM_readsHotel_103 ?_
            refine r_goto 108 dM_readsHotel_104 (by decide) ?_
            refine r_istore_n (ls' := [(3, zI 1), (0, zR 33), (1, zI b), (2, zI n)]) 3 dM_readsHotel_108 rfl (by decide) rfl ?_
            have L_109 : ∀ (n_109 : Nat) (ok : Int) (wl : zW) (hfr : zFr5 w wl) (hk4 : 0 ≤ wl.1 33 13 ∧ wl.1 33 13 ≤ 4) (hI : (ok = 1 ∧ zI1 wl b c n) ∨ (ok = 0 ∧ zFl c n (wl.1 33 10))), 6 * ok + 4 - wl.1 33 13 < (n_109 : Int) → zM mM_readsHotel (zZm 3 (zrI fun a w' => zFr5 w w' ∧ ((a = 1 ∧ zTx c n = (true, n, w'.1 33 13, w'.1 33 14) ∧ zI2 w' b c n ∧ 2 ≤ w'.1 33 14) ∨ (a = 0 ∧ zFl c n (w'.1 33 10))))) 109 [(3, zI ok), (0, zR 33), (1, zI b), (2, zI n)] [] wl := by
              intro n_109
              induction n_109 with
              | zero => intro ok wl hfr hk4 hI hm_109; exfalso; omega
              | succ n_109 ih_109 =>
                intro ok wl hfr hk4 hI hm_109
                refine r_ok (fun hOl => ?_)
                refine r_iload_n 3 0 dM_readsHotel_109 rfl rfl ?_
                refine r_if_eq 141 dM_readsHotel_110 (by decide) ⟨by omega, by omega⟩ (fun c_110 => ?_) (fun c_110 => ?_)
                · have L_141 : ∀ (n_141 : Nat) (ok : Int) (wm : zW) (hfm : zFr5 w wm) (hj6 : 0 ≤ wm.1 33 14 ∧ wm.1 33 14 ≤ 6) (hJ : (ok = 1 ∧ zI2 wm b c n) ∨ (ok = 0 ∧ zFl c n (wm.1 33 10))), 8 * ok + 6 - wm.1 33 14 < (n_141 : Int) → zM mM_readsHotel (zZm 3 (zrI fun a w' => zFr5 w w' ∧ ((a = 1 ∧ zTx c n = (true, n, w'.1 33 13, w'.1 33 14) ∧ zI2 w' b c n ∧ 2 ≤ w'.1 33 14) ∨ (a = 0 ∧ zFl c n (w'.1 33 10))))) 141 [(3, zI ok), (0, zR 33), (1, zI b), (2, zI n)] [] wm := by
                    intro n_141
                    induction n_141 with
                    | zero => intro ok wm hfm hj6 hJ hm_141; exfalso; omega
                    | succ n_141 ih_141 =>
                      intro ok wm hfm hj6 hJ hm_141
                      refine r_ok (fun hOm => ?_)
                      refine r_iload_n 3 0 dM_readsHotel_141 rfl rfl ?_
                      refine r_if_eq 171 dM_readsHotel_142 (by decide) ⟨by omega, by omega⟩ (fun c_142 => ?_) (fun c_142 => ?_)
                      · refine r_iload_n 3 0 dM_readsHotel_171 rfl rfl ?_
                        refine r_zret rfl (by omega) dM_readsHotel_172 ⟨_, rfl, ?_⟩
                        exact ⟨hfm, by first | (refine Or.inr ?_; rcases hJ with q | q; (exfalso; omega); exact q) | exact Or.inl ⟨by omega, hI2.fin (by omega) hj6.2 (by omega), hI2, by omega⟩⟩
                      · obtain ⟨_, a1, a2, a3, a4, a5, a6, a7, a8, a9, a10⟩ : ok = 1 ∧ zI2 wm b c n := (by rcases hJ with q | q; exact q; exact absurd q.1 (by omega))
                        have hI2 : zI2 wm b c n := ⟨a1, a2, a3, a4, a5, a6, a7, a8, a9, a10⟩
                        have hp10 := a2.2
                        refine r_aload_n 0 1 dM_readsHotel_145 rfl rfl ?_
                        refine r_getI (k := 14) fX7 rfl rfl (by decide) kw_519 rfl 14 rfl dM_readsHotel_146 rfl (fun y_146 ey_146 ly_146 uy_146 => ?_)
                        refine r_iconst dM_readsHotel_149 ?_
                        refine r_ic_lt 161 dM_readsHotel_150 (by decide) ⟨by omega, by omega⟩ ⟨by omega, by omega⟩ (fun c_150 => ?_) (fun c_150 => ?_)
                        · refine r_aload_n 0 1 dM_readsHotel_161 rfl rfl ?_
                          refine r_iload_n 1 2 dM_readsHotel_162 rfl rfl ?_
                          refine r_iload_n 2 3 dM_readsHotel_163 rfl rfl ?_
                          refine r_cVI (cM_readsGuest wm b n c (wm.1 33 13) (wm.1 33 14) (by omega) (by omega) (by omega) (by omega) a2 rfl (by omega) (by omega) rfl (by omega) (by omega)) qM_readsGuest rfl kw_663 rfl rfl dM_readsHotel_164 (st0 := [zI n, zI b, zR 33]) (st := []) rfl ⟨Nat.le_of_ble_eq_true rfl, Nat.le_of_ble_eq_true rfl⟩ ⟨Nat.le_of_ble_eq_true rfl, Nat.le_of_ble_eq_true rfl⟩ (Nat.le_of_ble_eq_true rfl) (fun a_164 w_164 h_164 ok_164 => ?_)
                          have hj14 : (a_164 = 1 ∧ w_164.1 33 14 = wm.1 33 14 + 1) ∨ (a_164 = 0 ∧ w_164.1 33 14 = wm.1 33 14) := (by rcases h_164 with ⟨q0, q1, q2, q3, q4, q5, q6, q7⟩ | ⟨q0, q1, q2⟩; exact Or.inl ⟨q0, q6⟩; exact Or.inr ⟨q0, q1 _ _ (by omega)⟩)
                          have hj164 : wm.1 33 14 < 6 ∨ a_164 = 0 := (by rcases h_164 with ⟨q0, q1, q2, q3, q4, q5, q6, q7⟩ | ⟨q0, q1, q2⟩; exact Or.inl q1.1; exact Or.inr q0)
                          refine r_istore_n (ls' := [(3, zI a_164), (0, zR 33), (1, zI b), (2, zI n)]) 3 dM_readsHotel_167 rfl (by decide) rfl ?_
                          refine r_goto 141 dM_readsHotel_168 (by decide) ?_
                          exact ih_141 a_164 w_164 (hfm.trans (by rcases h_164 with ⟨q0, q1, q2, q3, q4, q5, q6, q7⟩ | ⟨q0, q1, q2⟩; exact (fun i j z1 z2 => by rw [q7 i j (by omega), if_neg (by omega), if_neg (by omega), if_neg (by omega)]); exact (fun i j z1 z2 => q1 i j (by omega)))) (by omega) (by rcases h_164 with ⟨q0, q1, q2, q3, q4, q5, q6, q7⟩ | ⟨q0, q1, q2⟩; exact Or.inl ⟨q0, hI2.step rfl rfl hj6.1 q1 q2 q3 q4 q5 q6 q7⟩; exact Or.inr ⟨q0, zFl_g a1 a5 hj6.2 a6 (by omega) q2⟩) (by omega)
                        · refine r_aload_n 0 1 dM_readsHotel_153 rfl rfl ?_
                          refine r_getI (k := 10) fX7 rfl rfl (by decide) kw_515 rfl 10 rfl dM_readsHotel_154 rfl (fun y_154 ey_154 ly_154 uy_154 => ?_)
                          refine r_iload_n 2 3 dM_readsHotel_157 rfl rfl ?_
                          refine r_ic_ge 171 dM_readsHotel_158 (by decide) ⟨by omega, by omega⟩ ⟨by omega, by omega⟩ (fun c_158 => ?_) (fun c_158 => ?_)
                          · refine r_iload_n 3 0 dM_readsHotel_171 rfl rfl ?_
                            refine r_zret rfl (by omega) dM_readsHotel_172 ⟨_, rfl, ?_⟩
                            exact ⟨hfm, by first | (refine Or.inr ?_; rcases hJ with q | q; (exfalso; omega); exact q) | exact Or.inl ⟨by omega, hI2.fin (by omega) hj6.2 (by omega), hI2, by omega⟩⟩
                          · refine r_aload_n 0 1 dM_readsHotel_161 rfl rfl ?_
                            refine r_iload_n 1 2 dM_readsHotel_162 rfl rfl ?_
                            refine r_iload_n 2 3 dM_readsHotel_163 rfl rfl ?_
                            refine r_cVI (cM_readsGuest wm b n c (wm.1 33 13) (wm.1 33 14) (by omega) (by omega) (by omega) (by omega) a2 rfl (by omega) (by omega) rfl (by omega) (by omega)) qM_readsGuest rfl kw_663 rfl rfl dM_readsHotel_164 (st0 := [zI n, zI b, zR 33]) (st := []) rfl ⟨Nat.le_of_ble_eq_true rfl, Nat.le_of_ble_eq_true rfl⟩ ⟨Nat.le_of_ble_eq_true rfl, Nat.le_of_ble_eq_true rfl⟩ (Nat.le_of_ble_eq_true rfl) (fun a_164 w_164 h_164 ok_164 => ?_)
                            have hj14 : (a_164 = 1 ∧ w_164.1 33 14 = wm.1 33 14 + 1) ∨ (a_164 = 0 ∧ w_164.1 33 14 = wm.1 33 14) := (by rcases h_164 with ⟨q0, q1, q2, q3, q4, q5, q6, q7⟩ | ⟨q0, q1, q2⟩; exact Or.inl ⟨q0, q6⟩; exact Or.inr ⟨q0, q1 _ _ (by omega)⟩)
                            have hj164 : wm.1 33 14 < 6 ∨ a_164 = 0 := (by rcases h_164 with ⟨q0, q1, q2, q3, q4, q5, q6, q7⟩ | ⟨q0, q1, q2⟩; exact Or.inl q1.1; exact Or.inr q0)
                            refine r_istore_n (ls' := [(3, zI a_164), (0, zR 33), (1, zI b), (2, zI n)]) 3 dM_readsHotel_167 rfl (by decide) rfl ?_
                            refine r_goto 141 dM_readsHotel_168 (by decide) ?_
                            exact ih_141 a_164 w_164 (hfm.trans (by rcases h_164 with ⟨q0, q1, q2, q3, q4, q5, q6, q7⟩ | ⟨q0, q1, q2⟩; exact (fun i j z1 z2 => by rw [q7 i j (by omega), if_neg (by omega), if_neg (by omega), if_neg (by omega)]); exact (fun i j z1 z2 => q1 i j (by omega)))) (by omega) (by rcases h_164 with ⟨q0, q1, q2, q3, q4, q5, q6, q7⟩ | ⟨q0, q1, q2⟩; exact Or.inl ⟨q0, hI2.step rfl rfl hj6.1 q1 q2 q3 q4 q5 q6 q7⟩; exact Or.inr ⟨q0, zFl_g a1 a5 hj6.2 a6 (by omega) q2⟩) (by omega)
                  exact L_141 15 ok wl hfr (‹zOk wl› 33 14) (by first | (refine Or.inr ?_; rcases hI with q | q; (exfalso; omega); exact q) | exact Or.inl ⟨by omega, hI1.fin (by omega) (by omega) (by omega)⟩) (by have := ‹zOk wl› 33 14; change 0 ≤ wl.1 33 14 ∧ wl.1 33 14 ≤ 6 at this; omega)
                · obtain ⟨_, a1, a2, a3, a4, a5, a6, a7, a8⟩ : ok = 1 ∧ zI1 wl b c n := (by rcases hI with q | q; exact q; exact absurd q.1 (by omega))
                  have hI1 : zI1 wl b c n := ⟨a1, a2, a3, a4, a5, a6, a7, a8⟩
                  refine r_aload_n 0 1 dM_readsHotel_113 rfl rfl ?_
                  refine r_getI (k := 13) fX7 rfl rfl (by decide) kw_518 rfl 13 rfl dM_readsHotel_114 rfl (fun y_114 ey_114 ly_114 uy_114 => ?_)
                  refine r_if_eq 131 dM_readsHotel_117 (by decide) ⟨by omega, by omega⟩ (fun c_117 => ?_) (fun c_117 => ?_)
                  · refine r_aload_n 0 1 dM_readsHotel_131 rfl rfl ?_
                    refine r_iload_n 1 2 dM_readsHotel_132 rfl rfl ?_
                    refine r_iload_n 2 3 dM_readsHotel_133 rfl rfl ?_
                    refine r_cVI (cM_readsDoing wl b n c (wl.1 33 13) (by omega) (by omega) (by omega) (by omega) a2 rfl (by omega) (by omega)) qM_readsDoing rfl kw_659 rfl rfl dM_readsHotel_134 (st0 := [zI n, zI b, zR 33]) (st := []) rfl ⟨Nat.le_of_ble_eq_true rfl, Nat.le_of_ble_eq_true rfl⟩ ⟨Nat.le_of_ble_eq_true rfl, Nat.le_of_ble_eq_true rfl⟩ (Nat.le_of_ble_eq_true rfl) (fun a_134 w_134 h_134 ok_134 => ?_)
                    have hk13 : (a_134 = 1 ∧ w_134.1 33 13 = wl.1 33 13 + 1) ∨ (a_134 = 0 ∧ w_134.1 33 13 = wl.1 33 13) := (by rcases h_134 with ⟨q0, q1, q2, q3, q4, q5, q6⟩ | ⟨q0, q1, q2⟩; exact Or.inl ⟨q0, q5⟩; exact Or.inr ⟨q0, q1 _ _ (by omega)⟩)
                    have hk134 : wl.1 33 13 < 4 ∨ a_134 = 0 := (by rcases h_134 with ⟨q0, q1, q2, q3, q4, q5, q6⟩ | ⟨q0, q1, q2⟩; exact Or.inl q1.1; exact Or.inr q0)
                    refine r_istore_n (ls' := [(3, zI a_134), (0, zR 33), (1, zI b), (2, zI n)]) 3 dM_readsHotel_137 rfl (by decide) rfl ?_
                    refine r_goto 109 dM_readsHotel_138 (by decide) ?_
                    exact ih_109 a_134 w_134 (hfr.trans (by rcases h_134 with ⟨q0, q1, q2, q3, q4, q5, q6⟩ | ⟨q0, q1, q2⟩; exact (fun i j z1 z2 => by rw [q6 i j (by omega), if_neg (by omega), if_neg (by omega)]); exact (fun i j z1 z2 => q1 i j (by omega)))) (by omega) (by rcases h_134 with ⟨q0, q1, q2, q3, q4, q5, q6⟩ | ⟨q0, q1, q2⟩; exact Or.inl ⟨q0, hI1.step rfl hk4.1 q1 q2 q3 q4 q5 q6⟩; exact Or.inr ⟨q0, zFl_d a1 hk4.1 hk4.2 a4 (by omega) q2⟩) (by omega)
                  · refine r_aload_n 0 1 dM_readsHotel_120 rfl rfl ?_
                    refine r_iload_n 1 2 dM_readsHotel_121 rfl rfl ?_
                    refine r_iload_n 2 3 dM_readsHotel_122 rfl rfl ?_
                    refine r_cVI (cM_codeAt wl b n c (3 + 3 * wl.1 33 13) (by omega) (by omega) (by omega) (by omega) a2) qM_codeAt rfl kw_651 rfl rfl dM_readsHotel_123 (st0 := [zI n, zI b, zR 33]) (st := []) rfl ⟨Nat.le_of_ble_eq_true rfl, Nat.le_of_ble_eq_true rfl⟩ ⟨Nat.le_of_ble_eq_true rfl, Nat.le_of_ble_eq_true rfl⟩ (Nat.le_of_ble_eq_true rfl) (fun a_123 w_123 h_123 ok_123 => ?_)
                    obtain ⟨rfl, h_123⟩ := h_123
                    refine r_bipush dM_readsHotel_126 (by decide) ?_
                    refine r_ic_ne 141 dM_readsHotel_128 (by decide) ⟨by omega, by omega⟩ ⟨by omega, by omega⟩ (fun c_128 => ?_) (fun c_128 => ?_)
                    · have L_141 : ∀ (n_141 : Nat) (ok : Int) (wm : zW) (hfm : zFr5 w wm) (hj6 : 0 ≤ wm.1 33 14 ∧ wm.1 33 14 ≤ 6) (hJ : (ok = 1 ∧ zI2 wm b c n) ∨ (ok = 0 ∧ zFl c n (wm.1 33 10))), 8 * ok + 6 - wm.1 33 14 < (n_141 : Int) → zM mM_readsHotel (zZm 3 (zrI fun a w' => zFr5 w w' ∧ ((a = 1 ∧ zTx c n = (true, n, w'.1 33 13, w'.1 33 14) ∧ zI2 w' b c n ∧ 2 ≤ w'.1 33 14) ∨ (a = 0 ∧ zFl c n (w'.1 33 10))))) 141 [(3, zI ok), (0, zR 33), (1, zI b), (2, zI n)] [] wm := by
                        intro n_141
                        induction n_141 with
                        | zero => intro ok wm hfm hj6 hJ hm_141; exfalso; omega
                        | succ n_141 ih_141 =>
                          intro ok wm hfm hj6 hJ hm_141
                          refine r_ok (fun hOm => ?_)
                          refine r_iload_n 3 0 dM_readsHotel_141 rfl rfl ?_
                          refine r_if_eq 171 dM_readsHotel_142 (by decide) ⟨by omega, by omega⟩ (fun c_142 => ?_) (fun c_142 => ?_)
                          · refine r_iload_n 3 0 dM_readsHotel_171 rfl rfl ?_
                            refine r_zret rfl (by omega) dM_readsHotel_172 ⟨_, rfl, ?_⟩
                            exact ⟨hfm, by first | (refine Or.inr ?_; rcases hJ with q | q; (exfalso; omega); exact q) | exact Or.inl ⟨by omega, hI2.fin (by omega) hj6.2 (by omega), hI2, by omega⟩⟩
                          · obtain ⟨_, a1, a2, a3, a4, a5, a6, a7, a8, a9, a10⟩ : ok = 1 ∧ zI2 wm b c n := (by rcases hJ with q | q; exact q; exact absurd q.1 (by omega))
                            have hI2 : zI2 wm b c n := ⟨a1, a2, a3, a4, a5, a6, a7, a8, a9, a10⟩
                            have hp10 := a2.2
                            refine r_aload_n 0 1 dM_readsHotel_145 rfl rfl ?_
                            refine r_getI (k := 14) fX7 rfl rfl (by decide) kw_519 rfl 14 rfl dM_readsHotel_146 rfl (fun y_146 ey_146 ly_146 uy_146 => ?_)
                            refine r_iconst dM_readsHotel_149 ?_
                            refine r_ic_lt 161 dM_readsHotel_150 (by decide) ⟨by omega, by omega⟩ ⟨by omega, by omega⟩ (fun c_150 => ?_) (fun c_150 => ?_)
                            · refine r_aload_n 0 1 dM_readsHotel_161 rfl rfl ?_
                              refine r_iload_n 1 2 dM_readsHotel_162 rfl rfl ?_
                              refine r_iload_n 2 3 dM_readsHotel_163 rfl rfl ?_
                              refine r_cVI (cM_readsGuest wm b n c (wm.1 33 13) (wm.1 33 14) (by omega) (by omega) (by omega) (by omega) a2 rfl (by omega) (by omega) rfl (by omega) (by omega)) qM_readsGuest rfl kw_663 rfl rfl dM_readsHotel_164 (st0 := [zI n, zI b, zR 33]) (st := []) rfl ⟨Nat.le_of_ble_eq_true rfl, Nat.le_of_ble_eq_true rfl⟩ ⟨Nat.le_of_ble_eq_true rfl, Nat.le_of_ble_eq_true rfl⟩ (Nat.le_of_ble_eq_true rfl) (fun a_164 w_164 h_164 ok_164 => ?_)
                              have hj14 : (a_164 = 1 ∧ w_164.1 33 14 = wm.1 33 14 + 1) ∨ (a_164 = 0 ∧ w_164.1 33 14 = wm.1 33 14) := (by rcases h_164 with ⟨q0, q1, q2, q3, q4, q5, q6, q7⟩ | ⟨q0, q1, q2⟩; exact Or.inl ⟨q0, q6⟩; exact Or.inr ⟨q0, q1 _ _ (by omega)⟩)
                              have hj164 : wm.1 33 14 < 6 ∨ a_164 = 0 := (by rcases h_164 with ⟨q0, q1, q2, q3, q4, q5, q6, q7⟩ | ⟨q0, q1, q2⟩; exact Or.inl q1.1; exact Or.inr q0)
                              refine r_istore_n (ls' := [(3, zI a_164), (0, zR 33), (1, zI b), (2, zI n)]) 3 dM_readsHotel_167 rfl (by decide) rfl ?_
                              refine r_goto 141 dM_readsHotel_168 (by decide) ?_
                              exact ih_141 a_164 w_164 (hfm.trans (by rcases h_164 with ⟨q0, q1, q2, q3, q4, q5, q6, q7⟩ | ⟨q0, q1, q2⟩; exact (fun i j z1 z2 => by rw [q7 i j (by omega), if_neg (by omega), if_neg (by omega), if_neg (by omega)]); exact (fun i j z1 z2 => q1 i j (by omega)))) (by omega) (by rcases h_164 with ⟨q0, q1, q2, q3, q4, q5, q6, q7⟩ | ⟨q0, q1, q2⟩; exact Or.inl ⟨q0, hI2.step rfl rfl hj6.1 q1 q2 q3 q4 q5 q6 q7⟩; exact Or.inr ⟨q0, zFl_g a1 a5 hj6.2 a6 (by omega) q2⟩) (by omega)
                            · refine r_aload_n 0 1 dM_readsHotel_153 rfl rfl ?_
                              refine r_getI (k := 10) fX7 rfl rfl (by decide) kw_515 rfl 10 rfl dM_readsHotel_154 rfl (fun y_154 ey_154 ly_154 uy_154 => ?_)
                              refine r_iload_n 2 3 dM_readsHotel_157 rfl rfl ?_
                              refine r_ic_ge 171 dM_readsHotel_158 (by decide) ⟨by omega, by omega⟩ ⟨by omega, by omega⟩ (fun c_158 => ?_) (fun c_158 => ?_)
                              · refine r_iload_n 3 0 dM_readsHotel_171 rfl rfl ?_
                                refine r_zret rfl (by omega) dM_readsHotel_172 ⟨_, rfl, ?_⟩
                                exact ⟨hfm, by first | (refine Or.inr ?_; rcases hJ with q | q; (exfalso; omega); exact q) | exact Or.inl ⟨by omega, hI2.fin (by omega) hj6.2 (by omega), hI2, by omega⟩⟩
                              · refine r_aload_n 0 1 dM_readsHotel_161 rfl rfl ?_
                                refine r_iload_n 1 2 dM_readsHotel_162 rfl rfl ?_
                                refine r_iload_n 2 3 dM_readsHotel_163 rfl rfl ?_
                                refine r_cVI (cM_readsGuest wm b n c (wm.1 33 13) (wm.1 33 14) (by omega) (by omega) (by omega) (by omega) a2 rfl (by omega) (by omega) rfl (by omega) (by omega)) qM_readsGuest rfl kw_663 rfl rfl dM_readsHotel_164 (st0 := [zI n, zI b, zR 33]) (st := []) rfl ⟨Nat.le_of_ble_eq_true rfl, Nat.le_of_ble_eq_true rfl⟩ ⟨Nat.le_of_ble_eq_true rfl, Nat.le_of_ble_eq_true rfl⟩ (Nat.le_of_ble_eq_true rfl) (fun a_164 w_164 h_164 ok_164 => ?_)
                                have hj14 : (a_164 = 1 ∧ w_164.1 33 14 = wm.1 33 14 + 1) ∨ (a_164 = 0 ∧ w_164.1 33 14 = wm.1 33 14) := (by rcases h_164 with ⟨q0, q1, q2, q3, q4, q5, q6, q7⟩ | ⟨q0, q1, q2⟩; exact Or.inl ⟨q0, q6⟩; exact Or.inr ⟨q0, q1 _ _ (by omega)⟩)
                                have hj164 : wm.1 33 14 < 6 ∨ a_164 = 0 := (by rcases h_164 with ⟨q0, q1, q2, q3, q4, q5, q6, q7⟩ | ⟨q0, q1, q2⟩; exact Or.inl q1.1; exact Or.inr q0)
                                refine r_istore_n (ls' := [(3, zI a_164), (0, zR 33), (1, zI b), (2, zI n)]) 3 dM_readsHotel_167 rfl (by decide) rfl ?_
                                refine r_goto 141 dM_readsHotel_168 (by decide) ?_
                                exact ih_141 a_164 w_164 (hfm.trans (by rcases h_164 with ⟨q0, q1, q2, q3, q4, q5, q6, q7⟩ | ⟨q0, q1, q2⟩; exact (fun i j z1 z2 => by rw [q7 i j (by omega), if_neg (by omega), if_neg (by omega), if_neg (by omega)]); exact (fun i j z1 z2 => q1 i j (by omega)))) (by omega) (by rcases h_164 with ⟨q0, q1, q2, q3, q4, q5, q6, q7⟩ | ⟨q0, q1, q2⟩; exact Or.inl ⟨q0, hI2.step rfl rfl hj6.1 q1 q2 q3 q4 q5 q6 q7⟩; exact Or.inr ⟨q0, zFl_g a1 a5 hj6.2 a6 (by omega) q2⟩) (by omega)
                      exact L_141 15 ok wl hfr (‹zOk wl› 33 14) (by first | (refine Or.inr ?_; rcases hI with q | q; (exfalso; omega); exact q) | exact Or.inl ⟨by omega, hI1.fin (by omega) (by omega) (by omega)⟩) (by have := ‹zOk wl› 33 14; change 0 ≤ wl.1 33 14 ∧ wl.1 33 14 ≤ 6 at this; omega)
                    · refine r_aload_n 0 1 dM_readsHotel_131 rfl rfl ?_
                      refine r_iload_n 1 2 dM_readsHotel_132 rfl rfl ?_
                      refine r_iload_n 2 3 dM_readsHotel_133 rfl rfl ?_
                      refine r_cVI (cM_readsDoing wl b n c (wl.1 33 13) (by omega) (by omega) (by omega) (by omega) a2 rfl (by omega) (by omega)) qM_readsDoing rfl kw_659 rfl rfl dM_readsHotel_134 (st0 := [zI n, zI b, zR 33]) (st := []) rfl ⟨Nat.le_of_ble_eq_true rfl, Nat.le_of_ble_eq_true rfl⟩ ⟨Nat.le_of_ble_eq_true rfl, Nat.le_of_ble_eq_true rfl⟩ (Nat.le_of_ble_eq_true rfl) (fun a_134 w_134 h_134 ok_134 => ?_)
                      have hk13 : (a_134 = 1 ∧ w_134.1 33 13 = wl.1 33 13 + 1) ∨ (a_134 = 0 ∧ w_134.1 33 13 = wl.1 33 13) := (by rcases h_134 with ⟨q0, q1, q2, q3, q4, q5, q6⟩ | ⟨q0, q1, q2⟩; exact Or.inl ⟨q0, q5⟩; exact Or.inr ⟨q0, q1 _ _ (by omega)⟩)
                      have hk134 : wl.1 33 13 < 4 ∨ a_134 = 0 := (by rcases h_134 with ⟨q0, q1, q2, q3, q4, q5, q6⟩ | ⟨q0, q1, q2⟩; exact Or.inl q1.1; exact Or.inr q0)
                      refine r_istore_n (ls' := [(3, zI a_134), (0, zR 33), (1, zI b), (2, zI n)]) 3 dM_readsHotel_137 rfl (by decide) rfl ?_
                      refine r_goto 109 dM_readsHotel_138 (by decide) ?_
                      exact ih_109 a_134 w_134 (hfr.trans (by rcases h_134 with ⟨q0, q1, q2, q3, q4, q5, q6⟩ | ⟨q0, q1, q2⟩; exact (fun i j z1 z2 => by rw [q6 i j (by omega), if_neg (by omega), if_neg (by omega)]); exact (fun i j z1 z2 => q1 i j (by omega)))) (by omega) (by rcases h_134 with ⟨q0, q1, q2, q3, q4, q5, q6⟩ | ⟨q0, q1, q2⟩; exact Or.inl ⟨q0, hI1.step rfl hk4.1 q1 q2 q3 q4 q5 q6⟩; exact Or.inr ⟨q0, zFl_d a1 hk4.1 hk4.2 a4 (by omega) q2⟩) (by omega)
            exact L_109 11 1 w_93 (by first | exact (fun i j q1 q2 => by rw [ew_93, zput_e, if_neg (by omega), ew_68, zput_e, if_neg (by omega), ew_47, zput_e, if_neg (by omega), ew_12, zput_e, if_neg (by omega), ew_7, zput_e, if_neg (by omega), ew_2, zput_e, if_neg (by omega)]) | exact (fun i j q1 q2 => by rw [ew_93, zput_e, if_neg (by omega), ew_68, zput_e, if_neg (by omega), h_60.1 _ _ (by omega), ew_47, zput_e, if_neg (by omega), ew_12, zput_e, if_neg (by omega), ew_7, zput_e, if_neg (by omega), ew_2, zput_e, if_neg (by omega)]) | exact (fun i j q1 q2 => by rw [ew_93, zput_e, if_neg (by omega), h_85.1 _ _ (by omega), ew_68, zput_e, if_neg (by omega), h_60.1 _ _ (by omega), ew_47, zput_e, if_neg (by omega), ew_12, zput_e, if_neg (by omega), ew_7, zput_e, if_neg (by omega), ew_2, zput_e, if_neg (by omega)]) | (exfalso; omega)) (by have e13 : w_93.1 33 13 = 0 := (by first | rw [ew_93, zput_k _ _ (by decide), ew_68, zput_k _ _ (by decide), ew_47, zput_k _ _ (by decide), ew_12, zput_k _ _ (by decide), ew_7, zput_s] | rw [ew_93, zput_k _ _ (by decide), ew_68, zput_k _ _ (by decide), h_60.1 _ _ (by omega), ew_47, zput_k _ _ (by decide), ew_12, zput_k _ _ (by decide), ew_7, zput_s] | rw [ew_93, zput_k _ _ (by decide), h_85.1 _ _ (by omega), ew_68, zput_k _ _ (by decide), h_60.1 _ _ (by omega), ew_47, zput_k _ _ (by decide), ew_12, zput_k _ _ (by decide), ew_7, zput_s] | (exfalso; omega)); rw [e13]; decide) (by first | (exfalso; omega) | exact Or.inr ⟨rfl, (by have e10 : w_93.1 33 10 = 0 := (by rw [ew_93, zput_k _ _ (by decide), ew_68, zput_k _ _ (by decide), ew_47, zput_s]; omega); rw [e10]; exact zFl_0 (by omega))⟩ | exact Or.inr ⟨rfl, (by have e10 : w_93.1 33 10 = 1 := (by rw [ew_93, zput_k _ _ (by decide), ew_68, zput_k _ _ (by decide)]; omega); rw [e10]; exact zFl_1 (by omega) (by omega))⟩ | exact Or.inr ⟨rfl, (by have e10 : w_93.1 33 10 = 2 := (by rw [ew_93, zput_k _ _ (by decide)]; omega); rw [e10]; exact zFl_2 (by omega) (by omega) (by omega))⟩ | exact Or.inl ⟨rfl, (by have e13 : w_93.1 33 13 = 0 := (by rw [ew_93, zput_k _ _ (by decide), h_85.1 _ _ (by omega), ew_68, zput_k _ _ (by decide), h_60.1 _ _ (by omega), ew_47, zput_k _ _ (by decide), ew_12, zput_k _ _ (by decide), ew_7, zput_s]); have e10 : w_93.1 33 10 = 3 := (by rw [ew_93, zput_k _ _ (by decide)]; omega); have e14 : w_93.1 33 14 = 0 := (by rw [ew_93, zput_k _ _ (by decide), h_85.1 _ _ (by omega), ew_68, zput_k _ _ (by decide), h_60.1 _ _ (by omega), ew_47, zput_k _ _ (by decide), ew_12, zput_s]); have e11 : w_93.1 33 11 = a_60 := (by rw [ew_93, zput_k _ _ (by decide), h_85.1 _ _ (by omega), ew_68, zput_s]); have e12 : w_93.1 33 12 = a_85 := (by rw [ew_93, zput_s]); unfold zI1; rw [e13]; exact ⟨⟨by omega, by omega, by omega⟩, zRS.fr hT3 (fun q => by rw [ew_93, zput_i _ _ _ _ (by decide)]) (by omega), by omega, rfl, e14, by omega, by omega, fun d d0 d1 => absurd d1 (by omega)⟩)⟩) (by have e13 : w_93.1 33 13 = 0 := (by first | rw [ew_93, zput_k _ _ (by decide), ew_68, zput_k _ _ (by decide), ew_47, zput_k _ _ (by decide), ew_12, zput_k _ _ (by decide), ew_7, zput_s] | rw [ew_93, zput_k _ _ (by decide), ew_68, zput_k _ _ (by decide), h_60.1 _ _ (by omega), ew_47, zput_k _ _ (by decide), ew_12, zput_k _ _ (by decide), ew_7, zput_s] | rw [ew_93, zput_k _ _ (by decide), h_85.1 _ _ (by omega), ew_68, zput_k _ _ (by decide), h_60.1 _ _ (by omega), ew_47, zput_k _ _ (by decide), ew_12, zput_k _ _ (by decide), ew_7, zput_s] | (exfalso; omega)); rw [e13]; decide)
      · refine r_aload_n 0 1 dM_readsHotel_55 rfl rfl ?_
        refine r_iload_n 1 2 dM_readsHotel_56 rfl rfl ?_
        refine r_iload_n 2 3 dM_readsHotel_57 rfl rfl ?_
        refine r_iconst dM_readsHotel_58 ?_
        refine r_iconst dM_readsHotel_59 ?_
        refine r_cVI (cM_figure w_47 b n 0 5 c 1 (by omega) (by omega) (by omega) (by omega) (by have q : z0 = 1 := (by omega); rw [q] at hT1; exact hT1) (by omega) (by omega) (by omega) (by omega)) qM_figure rfl kw_655 rfl rfl dM_readsHotel_60 (st0 := [zI 5, zI 0, zI n, zI b, zR 33, zR 33]) (st := [zR 33]) rfl ⟨Nat.le_of_ble_eq_true rfl, Nat.le_of_ble_eq_true rfl⟩ ⟨Nat.le_of_ble_eq_true rfl, Nat.le_of_ble_eq_true rfl⟩ (Nat.le_of_ble_eq_true rfl) (fun a_60 w_60 h_60 ok_60 => ?_)
        refine r_goto 68 dM_readsHotel_63 (by decide) ?_
        refine r_putI (k := 11) fX7 rfl rfl (by decide) kw_516 rfl rfl (by decide +kernel) 11 rfl dM_readsHotel_68 rfl (by omega) (by omega) (fun w_68 ew_68 => ?_)
        refine r_aload_n 0 1 dM_readsHotel_71 rfl rfl ?_
        refine r_aload_n 0 1 dM_readsHotel_72 rfl rfl ?_
        refine r_getI (k := 11) fX7 rfl rfl (by decide) kw_516 rfl 11 rfl dM_readsHotel_73 rfl (fun y_73 ey_73 ly_73 uy_73 => ?_)
        rw [ew_68, zput_s] at ey_73
        refine r_if_lt 91 dM_readsHotel_76 (by decide) ⟨by omega, by omega⟩ (fun c_76 => ?_) (fun c_76 => ?_)
        · refine r_bipush dM_readsHotel_91 (by decide) ?_
          refine r_putI (k := 12) fX7 rfl rfl (by decide) kw_517 rfl rfl (by decide +kernel) 12 rfl dM_readsHotel_93 rfl (by omega) (by omega) (fun w_93 ew_93 => ?_)
          refine r_aload_n 0 1 dM_readsHotel_96 rfl rfl ?_
          refine r_getI (k := 12) fX7 rfl rfl (by decide) kw_517 rfl 12 rfl dM_readsHotel_97 rfl (fun y_97 ey_97 ly_97 uy_97 => ?_)
          rw [ew_93, zput_s] at ey_97
          refine r_if_le 107 dM_readsHotel_100 (by decide) ⟨by omega, by omega⟩ (fun c_100 => ?_) (fun c_100 => ?_)
          · refine r_iconst dM_readsHotel_107 ?_
            refine r_istore_n (ls' := [(3, zI 0), (0, zR 33), (1, zI b), (2, zI n)]) 3 dM_readsHotel_108 rfl (by decide) rfl ?_
            have L_109 : ∀ (n_109 : Nat) (ok : Int) (wl : zW) (hfr : zFr5 w wl) (hk4 : 0 ≤ wl.1 33 13 ∧ wl.1 33 13 ≤ 4) (hI : (ok = 1 ∧ zI1 wl b c n) ∨ (ok = 0 ∧ zFl c n (wl.1 33 10))), 6 * ok + 4 - wl.1 33 13 < (n_109 : Int) → zM mM_readsHotel (zZm 3 (zrI fun a w' => zFr5 w w' ∧ ((a = 1 ∧ zTx c n = (true, n, w'.1 33 13, w'.1 33 14) ∧ zI2 w' b c n ∧ 2 ≤ w'.1 33 14) ∨ (a = 0 ∧ zFl c n (w'.1 33 10))))) 109 [(3, zI ok), (0, zR 33), (1, zI b), (2, zI n)] [] wl := by
              intro n_109
              induction n_109 with
              | zero => intro ok wl hfr hk4 hI hm_109; exfalso; omega
              | succ n_109 ih_109 =>
                intro ok wl hfr hk4 hI hm_109
                refine r_ok (fun hOl => ?_)
                refine r_iload_n 3 0 dM_readsHotel_109 rfl rfl ?_
                refine r_if_eq 141 dM_readsHotel_110 (by decide) ⟨by omega, by omega⟩ (fun c_110 => ?_) (fun c_110 => ?_)
                · have L_141 : ∀ (n_141 : Nat) (ok : Int) (wm : zW) (hfm : zFr5 w wm) (hj6 : 0 ≤ wm.1 33 14 ∧ wm.1 33 14 ≤ 6) (hJ : (ok = 1 ∧ zI2 wm b c n) ∨ (ok = 0 ∧ zFl c n (wm.1 33 10))), 8 * ok + 6 - wm.1 33 14 < (n_141 : Int) → zM mM_readsHotel (zZm 3 (zrI fun a w' => zFr5 w w' ∧ ((a = 1 ∧ zTx c n = (true, n, w'.1 33 13, w'.1 33 14) ∧ zI2 w' b c n ∧ 2 ≤ w'.1 33 14) ∨ (a = 0 ∧ zFl c n (w'.1 33 10))))) 141 [(3, zI ok), (0, zR 33), (1, zI b), (2, zI n)] [] wm := by
                    intro n_141
                    induction n_141 with
                    | zero => intro ok wm hfm hj6 hJ hm_141; exfalso; omega
                    | succ n_141 ih_141 =>
                      intro ok wm hfm hj6 hJ hm_141
                      refine r_ok (fun hOm => ?_)
                      refine r_iload_n 3 0 dM_readsHotel_141 rfl rfl ?_
                      refine r_if_eq 171 dM_readsHotel_142 (by decide) ⟨by omega, by omega⟩ (fun c_142 => ?_) (fun c_142 => ?_)
                      · refine r_iload_n 3 0 dM_readsHotel_171 rfl rfl ?_
                        refine r_zret rfl (by omega) dM_readsHotel_172 ⟨_, rfl, ?_⟩
                        exact ⟨hfm, by first | (refine Or.inr ?_; rcases hJ with q | q; (exfalso; omega); exact q) | exact Or.inl ⟨by omega, hI2.fin (by omega) hj6.2 (by omega), hI2, by omega⟩⟩
                      · obtain ⟨_, a1, a2, a3, a4, a5, a6, a7, a8, a9, a10⟩ : ok = 1 ∧ zI2 wm b c n := (by rcases hJ with q | q; exact q; exact absurd q.1 (by omega))
                        have hI2 : zI2 wm b c n := ⟨a1, a2, a3, a4, a5, a6, a7, a8, a9, a10⟩
                        have hp10 := a2.2
                        refine r_aload_n 0 1 dM_readsHotel_145 rfl rfl ?_
                        refine r_getI (k := 14) fX7 rfl rfl (by decide) kw_519 rfl 14 rfl dM_readsHotel_146 rfl (fun y_146 ey_146 ly_146 uy_146 => ?_)
                        refine r_iconst dM_readsHotel_149 ?_
                        refine r_ic_lt 161 dM_readsHotel_150 (by decide) ⟨by omega, by omega⟩ ⟨by omega, by omega⟩ (fun c_150 => ?_) (fun c_150 => ?_)
                        · refine r_aload_n 0 1 dM_readsHotel_161 rfl rfl ?_
                          refine r_iload_n 1 2 dM_readsHotel_162 rfl rfl ?_
                          refine r_iload_n 2 3 dM_readsHotel_163 rfl rfl ?_
                          refine r_cVI (cM_readsGuest wm b n c (wm.1 33 13) (wm.1 33 14) (by omega) (by omega) (by omega) (by omega) a2 rfl (by omega) (by omega) rfl (by omega) (by omega)) qM_readsGuest rfl kw_663 rfl rfl dM_readsHotel_164 (st0 := [zI n, zI b, zR 33]) (st := []) rfl ⟨Nat.le_of_ble_eq_true rfl, Nat.le_of_ble_eq_true rfl⟩ ⟨Nat.le_of_ble_eq_true rfl, Nat.le_of_ble_eq_true rfl⟩ (Nat.le_of_ble_eq_true rfl) (fun a_164 w_164 h_164 ok_164 => ?_)
                          have hj14 : (a_164 = 1 ∧ w_164.1 33 14 = wm.1 33 14 + 1) ∨ (a_164 = 0 ∧ w_164.1 33 14 = wm.1 33 14) := (by rcases h_164 with ⟨q0, q1, q2, q3, q4, q5, q6, q7⟩ | ⟨q0, q1, q2⟩; exact Or.inl ⟨q0, q6⟩; exact Or.inr ⟨q0, q1 _ _ (by omega)⟩)
                          have hj164 : wm.1 33 14 < 6 ∨ a_164 = 0 := (by rcases h_164 with ⟨q0, q1, q2, q3, q4, q5, q6, q7⟩ | ⟨q0, q1, q2⟩; exact Or.inl q1.1; exact Or.inr q0)
                          refine r_istore_n (ls' := [(3, zI a_164), (0, zR 33), (1, zI b), (2, zI n)]) 3 dM_readsHotel_167 rfl (by decide) rfl ?_
                          refine r_goto 141 dM_readsHotel_168 (by decide) ?_
                          exact ih_141 a_164 w_164 (hfm.trans (by rcases h_164 with ⟨q0, q1, q2, q3, q4, q5, q6, q7⟩ | ⟨q0, q1, q2⟩; exact (fun i j z1 z2 => by rw [q7 i j (by omega), if_neg (by omega), if_neg (by omega), if_neg (by omega)]); exact (fun i j z1 z2 => q1 i j (by omega)))) (by omega) (by rcases h_164 with ⟨q0, q1, q2, q3, q4, q5, q6, q7⟩ | ⟨q0, q1, q2⟩; exact Or.inl ⟨q0, hI2.step rfl rfl hj6.1 q1 q2 q3 q4 q5 q6 q7⟩; exact Or.inr ⟨q0, zFl_g a1 a5 hj6.2 a6 (by omega) q2⟩) (by omega)
                        · refine r_aload_n 0 1 dM_readsHotel_153 rfl rfl ?_
                          refine r_getI (k := 10) fX7 rfl rfl (by decide) kw_515 rfl 10 rfl dM_readsHotel_154 rfl (fun y_154 ey_154 ly_154 uy_154 => ?_)
                          refine r_iload_n 2 3 dM_readsHotel_157 rfl rfl ?_
                          refine r_ic_ge 171 dM_readsHotel_158 (by decide) ⟨by omega, by omega⟩ ⟨by omega, by omega⟩ (fun c_158 => ?_) (fun c_158 => ?_)
                          · refine r_iload_n 3 0 dM_readsHotel_171 rfl rfl ?_
                            refine r_zret rfl (by omega) dM_readsHotel_172 ⟨_, rfl, ?_⟩
                            exact ⟨hfm, by first | (refine Or.inr ?_; rcases hJ with q | q; (exfalso; omega); exact q) | exact Or.inl ⟨by omega, hI2.fin (by omega) hj6.2 (by omega), hI2, by omega⟩⟩
                          · refine r_aload_n 0 1 dM_readsHotel_161 rfl rfl ?_
                            refine r_iload_n 1 2 dM_readsHotel_162 rfl rfl ?_
                            refine r_iload_n 2 3 dM_readsHotel_163 rfl rfl ?_
                            refine r_cVI (cM_readsGuest wm b n c (wm.1 33 13) (wm.1 33 14) (by omega) (by omega) (by omega) (by omega) a2 rfl (by omega) (by omega) rfl (by omega) (by omega)) qM_readsGuest rfl kw_663 rfl rfl dM_readsHotel_164 (st0 := [zI n, zI b, zR 33]) (st := []) rfl ⟨Nat.le_of_ble_eq_true rfl, Nat.le_of_ble_eq_true rfl⟩ ⟨Nat.le_of_ble_eq_true rfl, Nat.le_of_ble_eq_true rfl⟩ (Nat.le_of_ble_eq_true rfl) (fun a_164 w_164 h_164 ok_164 => ?_)
                            have hj14 : (a_164 = 1 ∧ w_164.1 33 14 = wm.1 33 14 + 1) ∨ (a_164 = 0 ∧ w_164.1 33 14 = wm.1 33 14) := (by rcases h_164 with ⟨q0, q1, q2, q3, q4, q5, q6, q7⟩ | ⟨q0, q1, q2⟩; exact Or.inl ⟨q0, q6⟩; exact Or.inr ⟨q0, q1 _ _ (by omega)⟩)
                            have hj164 : wm.1 33 14 < 6 ∨ a_164 = 0 := (by rcases h_164 with ⟨q0, q1, q2, q3, q4, q5, q6, q7⟩ | ⟨q0, q1, q2⟩; exact Or.inl q1.1; exact Or.inr q0)
                            refine r_istore_n (ls' := [(3, zI a_164), (0, zR 33), (1, zI b), (2, zI n)]) 3 dM_readsHotel_167 rfl (by decide) rfl ?_
                            refine r_goto 141 dM_readsHotel_168 (by decide) ?_
                            exact ih_141 a_164 w_164 (hfm.trans (by rcases h_164 with ⟨q0, q1, q2, q3, q4, q5, q6, q7⟩ | ⟨q0, q1, q2⟩; exact (fun i j z1 z2 => by rw [q7 i j (by omega), if_neg (by omega), if_neg (by omega), if_neg (by omega)]); exact (fun i j z1 z2 => q1 i j (by omega)))) (by omega) (by rcases h_164 with ⟨q0, q1, q2, q3, q4, q5, q6, q7⟩ | ⟨q0, q1, q2⟩; exact Or.inl ⟨q0, hI2.step rfl rfl hj6.1 q1 q2 q3 q4 q5 q6 q7⟩; exact Or.inr ⟨q0, zFl_g a1 a5 hj6.2 a6 (by omega) q2⟩) (by omega)
                  exact L_141 15 ok wl hfr (‹zOk wl› 33 14) (by first | (refine Or.inr ?_; rcases hI with q | q; (exfalso; omega); exact q) | exact Or.inl ⟨by omega, hI1.fin (by omega) (by omega) (by omega)⟩) (by have := ‹zOk wl› 33 14; change 0 ≤ wl.1 33 14 ∧ wl.1 33 14 ≤ 6 at this; omega)
                · obtain ⟨_, a1, a2, a3, a4, a5, a6, a7, a8⟩ : ok = 1 ∧ zI1 wl b c n := (by rcases hI with q | q; exact q; exact absurd q.1 (by omega))
                  have hI1 : zI1 wl b c n := ⟨a1, a2, a3, a4, a5, a6, a7, a8⟩
                  refine r_aload_n 0 1 dM_readsHotel_113 rfl rfl ?_
                  refine r_getI (k := 13) fX7 rfl rfl (by decide) kw_518 rfl 13 rfl dM_readsHotel_114 rfl (fun y_114 ey_114 ly_114 uy_114 => ?_)
                  refine r_if_eq 131 dM_readsHotel_117 (by decide) ⟨by omega, by omega⟩ (fun c_117 => ?_) (fun c_117 => ?_)
                  · refine r_aload_n 0 1 dM_readsHotel_131 rfl rfl ?_
                    refine r_iload_n 1 2 dM_readsHotel_132 rfl rfl ?_
                    refine r_iload_n 2 3 dM_readsHotel_133 rfl rfl ?_
                    refine r_cVI (cM_readsDoing wl b n c (wl.1 33 13) (by omega) (by omega) (by omega) (by omega) a2 rfl (by omega) (by omega)) qM_readsDoing rfl kw_659 rfl rfl dM_readsHotel_134 (st0 := [zI n, zI b, zR 33]) (st := []) rfl ⟨Nat.le_of_ble_eq_true rfl, Nat.le_of_ble_eq_true rfl⟩ ⟨Nat.le_of_ble_eq_true rfl, Nat.le_of_ble_eq_true rfl⟩ (Nat.le_of_ble_eq_true rfl) (fun a_134 w_134 h_134 ok_134 => ?_)
                    have hk13 : (a_134 = 1 ∧ w_134.1 33 13 = wl.1 33 13 + 1) ∨ (a_134 = 0 ∧ w_134.1 33 13 = wl.1 33 13) := (by rcases h_134 with ⟨q0, q1, q2, q3, q4, q5, q6⟩ | ⟨q0, q1, q2⟩; exact Or.inl ⟨q0, q5⟩; exact Or.inr ⟨q0, q1 _ _ (by omega)⟩)
                    have hk134 : wl.1 33 13 < 4 ∨ a_134 = 0 := (by rcases h_134 with ⟨q0, q1, q2, q3, q4, q5, q6⟩ | ⟨q0, q1, q2⟩; exact Or.inl q1.1; exact Or.inr q0)
                    refine r_istore_n (ls' := [(3, zI a_134), (0, zR 33), (1, zI b), (2, zI n)]) 3 dM_readsHotel_137 rfl (by decide) rfl ?_
                    refine r_goto 109 dM_readsHotel_138 (by decide) ?_
                    exact ih_109 a_134 w_134 (hfr.trans (by rcases h_134 with ⟨q0, q1, q2, q3, q4, q5, q6⟩ | ⟨q0, q1, q2⟩; exact (fun i j z1 z2 => by rw [q6 i j (by omega), if_neg (by omega), if_neg (by omega)]); exact (fun i j z1 z2 => q1 i j (by omega)))) (by omega) (by rcases h_134 with ⟨q0, q1, q2, q3, q4, q5, q6⟩ | ⟨q0, q1, q2⟩; exact Or.inl ⟨q0, hI1.step rfl hk4.1 q1 q2 q3 q4 q5 q6⟩; exact Or.inr ⟨q0, zFl_d a1 hk4.1 hk4.2 a4 (by omega) q2⟩) (by omega)
                  · refine r_aload_n 0 1 dM_readsHotel_120 rfl rfl ?_
                    refine r_iload_n 1 2 dM_readsHotel_121 rfl rfl ?_
                    refine r_iload_n 2 3 dM_readsHotel_122 rfl rfl ?_
                    refine r_cVI (cM_codeAt wl b n c (3 + 3 * wl.1 33 13) (by omega) (by omega) (by omega) (by omega) a2) qM_codeAt rfl kw_651 rfl rfl dM_readsHotel_123 (st0 := [zI n, zI b, zR 33]) (st := []) rfl ⟨Nat.le_of_ble_eq_true rfl, Nat.le_of_ble_eq_true rfl⟩ ⟨Nat.le_of_ble_eq_true rfl, Nat.le_of_ble_eq_true rfl⟩ (Nat.le_of_ble_eq_true rfl) (fun a_123 w_123 h_123 ok_123 => ?_)
                    obtain ⟨rfl, h_123⟩ := h_123
                    refine r_bipush dM_readsHotel_126 (by decide) ?_
                    refine r_ic_ne 141 dM_readsHotel_128 (by decide) ⟨by omega, by omega⟩ ⟨by omega, by omega⟩ (fun c_128 => ?_) (fun c_128 => ?_)
                    · have L_141 : ∀ (n_141 : Nat) (ok : Int) (wm : zW) (hfm : zFr5 w wm) (hj6 : 0 ≤ wm.1 33 14 ∧ wm.1 33 14 ≤ 6) (hJ : (ok = 1 ∧ zI2 wm b c n) ∨ (ok = 0 ∧ zFl c n (wm.1 33 10))), 8 * ok + 6 - wm.1 33 14 < (n_141 : Int) → zM mM_readsHotel (zZm 3 (zrI fun a w' => zFr5 w w' ∧ ((a = 1 ∧ zTx c n = (true, n, w'.1 33 13, w'.1 33 14) ∧ zI2 w' b c n ∧ 2 ≤ w'.1 33 14) ∨ (a = 0 ∧ zFl c n (w'.1 33 10))))) 141 [(3, zI ok), (0, zR 33), (1, zI b), (2, zI n)] [] wm := by
                        intro n_141
                        induction n_141 with
                        | zero => intro ok wm hfm hj6 hJ hm_141; exfalso; omega
                        | succ n_141 ih_141 =>
                          intro ok wm hfm hj6 hJ hm_141
                          refine r_ok (fun hOm => ?_)
                          refine r_iload_n 3 0 dM_readsHotel_141 rfl rfl ?_
                          refine r_if_eq 171 dM_readsHotel_142 (by decide) ⟨by omega, by omega⟩ (fun c_142 => ?_) (fun c_142 => ?_)
                          · refine r_iload_n 3 0 dM_readsHotel_171 rfl rfl ?_
                            refine r_zret rfl (by omega) dM_readsHotel_172 ⟨_, rfl, ?_⟩
                            exact ⟨hfm, by first | (refine Or.inr ?_; rcases hJ with q | q; (exfalso; omega); exact q) | exact Or.inl ⟨by omega, hI2.fin (by omega) hj6.2 (by omega), hI2, by omega⟩⟩
                          · obtain ⟨_, a1, a2, a3, a4, a5, a6, a7, a8, a9, a10⟩ : ok = 1 ∧ zI2 wm b c n := (by rcases hJ with q | q; exact q; exact absurd q.1 (by omega))
                            have hI2 : zI2 wm b c n := ⟨a1, a2, a3, a4, a5, a6, a7, a8, a9, a10⟩
                            have hp10 := a2.2
                            refine r_aload_n 0 1 dM_readsHotel_145 rfl rfl ?_
                            refine r_getI (k := 14) fX7 rfl rfl (by decide) kw_519 rfl 14 rfl dM_readsHotel_146 rfl (fun y_146 ey_146 ly_146 uy_146 => ?_)
                            refine r_iconst dM_readsHotel_149 ?_
                            refine r_ic_lt 161 dM_readsHotel_150 (by decide) ⟨by omega, by omega⟩ ⟨by omega, by omega⟩ (fun c_150 => ?_) (fun c_150 => ?_)
                            · refine r_aload_n 0 1 dM_readsHotel_161 rfl rfl ?_
                              refine r_iload_n 1 2 dM_readsHotel_162 rfl rfl ?_
                              refine r_iload_n 2 3 dM_readsHotel_163 rfl rfl ?_
                              refine r_cVI (cM_readsGuest wm b n c (wm.1 33 13) (wm.1 33 14) (by omega) (by omega) (by omega) (by omega) a2 rfl (by omega) (by omega) rfl (by omega) (by omega)) qM_readsGuest rfl kw_663 rfl rfl dM_readsHotel_164 (st0 := [zI n, zI b, zR 33]) (st := []) rfl ⟨Nat.le_of_ble_eq_true rfl, Nat.le_of_ble_eq_true rfl⟩ ⟨Nat.le_of_ble_eq_true rfl, Nat.le_of_ble_eq_true rfl⟩ (Nat.le_of_ble_eq_true rfl) (fun a_164 w_164 h_164 ok_164 => ?_)
                              have hj14 : (a_164 = 1 ∧ w_164.1 33 14 = wm.1 33 14 + 1) ∨ (a_164 = 0 ∧ w_164.1 33 14 = wm.1 33 14) := (by rcases h_164 with ⟨q0, q1, q2, q3, q4, q5, q6, q7⟩ | ⟨q0, q1, q2⟩; exact Or.inl ⟨q0, q6⟩; exact Or.inr ⟨q0, q1 _ _ (by omega)⟩)
                              have hj164 : wm.1 33 14 < 6 ∨ a_164 = 0 := (by rcases h_164 with ⟨q0, q1, q2, q3, q4, q5, q6, q7⟩ | ⟨q0, q1, q2⟩; exact Or.inl q1.1; exact Or.inr q0)
                              refine r_istore_n (ls' := [(3, zI a_164), (0, zR 33), (1, zI b), (2, zI n)]) 3 dM_readsHotel_167 rfl (by decide) rfl ?_
                              refine r_goto 141 dM_readsHotel_168 (by decide) ?_
                              exact ih_141 a_164 w_164 (hfm.trans (by rcases h_164 with ⟨q0, q1, q2, q3, q4, q5, q6, q7⟩ | ⟨q0, q1, q2⟩; exact (fun i j z1 z2 => by rw [q7 i j (by omega), if_neg (by omega), if_neg (by omega), if_neg (by omega)]); exact (fun i j z1 z2 => q1 i j (by omega)))) (by omega) (by rcases h_164 with ⟨q0, q1, q2, q3, q4, q5, q6, q7⟩ | ⟨q0, q1, q2⟩; exact Or.inl ⟨q0, hI2.step rfl rfl hj6.1 q1 q2 q3 q4 q5 q6 q7⟩; exact Or.inr ⟨q0, zFl_g a1 a5 hj6.2 a6 (by omega) q2⟩) (by omega)
                            · refine r_aload_n 0 1 dM_readsHotel_153 rfl rfl ?_
                              refine r_getI (k := 10) fX7 rfl rfl (by decide) kw_515 rfl 10 rfl dM_readsHotel_154 rfl (fun y_154 ey_154 ly_154 uy_154 => ?_)
                              refine r_iload_n 2 3 dM_readsHotel_157 rfl rfl ?_
                              refine r_ic_ge 171 dM_readsHotel_158 (by decide) ⟨by omega, by omega⟩ ⟨by omega, by omega⟩ (fun c_158 => ?_) (fun c_158 => ?_)
                              · refine r_iload_n 3 0 dM_readsHotel_171 rfl rfl ?_
                                refine r_zret rfl (by omega) dM_readsHotel_172 ⟨_, rfl, ?_⟩
                                exact ⟨hfm, by first | (refine Or.inr ?_; rcases hJ with q | q; (exfalso; omega); exact q) | exact Or.inl ⟨by omega, hI2.fin (by omega) hj6.2 (by omega), hI2, by omega⟩⟩
                              · refine r_aload_n 0 1 dM_readsHotel_161 rfl rfl ?_
                                refine r_iload_n 1 2 dM_readsHotel_162 rfl rfl ?_
                                refine r_iload_n 2 3 dM_readsHotel_163 rfl rfl ?_
                                refine r_cVI (cM_readsGuest wm b n c (wm.1 33 13) (wm.1 33 14) (by omega) (by omega) (by omega) (by omega) a2 rfl (by omega) (by omega) rfl (by omega) (by omega)) qM_readsGuest rfl kw_663 rfl rfl dM_readsHotel_164 (st0 := [zI n, zI b, zR 33]) (st := []) rfl ⟨Nat.le_of_ble_eq_true rfl, Nat.le_of_ble_eq_true rfl⟩ ⟨Nat.le_of_ble_eq_true rfl, Nat.le_of_ble_eq_true rfl⟩ (Nat.le_of_ble_eq_true rfl) (fun a_164 w_164 h_164 ok_164 => ?_)
                                have hj14 : (a_164 = 1 ∧ w_164.1 33 14 = wm.1 33 14 + 1) ∨ (a_164 = 0 ∧ w_164.1 33 14 = wm.1 33 14) := (by rcases h_164 with ⟨q0, q1, q2, q3, q4, q5, q6, q7⟩ | ⟨q0, q1, q2⟩; exact Or.inl ⟨q0, q6⟩; exact Or.inr ⟨q0, q1 _ _ (by omega)⟩)
                                have hj164 : wm.1 33 14 < 6 ∨ a_164 = 0 := (by rcases h_164 with ⟨q0, q1, q2, q3, q4, q5, q6, q7⟩ | ⟨q0, q1, q2⟩; exact Or.inl q1.1; exact Or.inr q0)
                                refine r_istore_n (ls' := [(3, zI a_164), (0, zR 33), (1, zI b), (2, zI n)]) 3 dM_readsHotel_167 rfl (by decide) rfl ?_
                                refine r_goto 141 dM_readsHotel_168 (by decide) ?_
                                exact ih_141 a_164 w_164 (hfm.trans (by rcases h_164 with ⟨q0, q1, q2, q3, q4, q5, q6, q7⟩ | ⟨q0, q1, q2⟩; exact (fun i j z1 z2 => by rw [q7 i j (by omega), if_neg (by omega), if_neg (by omega), if_neg (by omega)]); exact (fun i j z1 z2 => q1 i j (by omega)))) (by omega) (by rcases h_164 with ⟨q0, q1, q2, q3, q4, q5, q6, q7⟩ | ⟨q0, q1, q2⟩; exact Or.inl ⟨q0, hI2.step rfl rfl hj6.1 q1 q2 q3 q4 q5 q6 q7⟩; exact Or.inr ⟨q0, zFl_g a1 a5 hj6.2 a6 (by omega) q2⟩) (by omega)
                      exact L_141 15 ok wl hfr (‹zOk wl› 33 14) (by first | (refine Or.inr ?_; rcases hI with q | q; (exfalso; omega); exact q) | exact Or.inl ⟨by omega, hI1.fin (by omega) (by omega) (by omega)⟩) (by have := ‹zOk wl› 33 14; change 0 ≤ wl.1 33 14 ∧ wl.1 33 14 ≤ 6 at this; omega)
                    · refine r_aload_n 0 1 dM_readsHotel_131 rfl rfl ?_
                      refine r_iload_n 1 2 dM_readsHotel_132 rfl rfl ?_
                      refine r_iload_n 2 3 dM_readsHotel_133 rfl rfl ?_
                      refine r_cVI (cM_readsDoing wl b n c (wl.1 33 13) (by omega) (by omega) (by omega) (by omega) a2 rfl (by omega) (by omega)) qM_readsDoing rfl kw_659 rfl rfl dM_readsHotel_134 (st0 := [zI n, zI b, zR 33]) (st := []) rfl ⟨Nat.le_of_ble_eq_true rfl, Nat.le_of_ble_eq_true rfl⟩ ⟨Nat.le_of_ble_eq_true rfl, Nat.le_of_ble_eq_true rfl⟩ (Nat.le_of_ble_eq_true rfl) (fun a_134 w_134 h_134 ok_134 => ?_)
                      have hk13 : (a_134 = 1 ∧ w_134.1 33 13 = wl.1 33 13 + 1) ∨ (a_134 = 0 ∧ w_134.1 33 13 = wl.1 33 13) := (by rcases h_134 with ⟨q0, q1, q2, q3, q4, q5, q6⟩ | ⟨q0, q1, q2⟩; exact Or.inl ⟨q0, q5⟩; exact Or.inr ⟨q0, q1 _ _ (by omega)⟩)
                      have hk134 : wl.1 33 13 < 4 ∨ a_134 = 0 := (by rcases h_134 with ⟨q0, q1, q2, q3, q4, q5, q6⟩ | ⟨q0, q1, q2⟩; exact Or.inl q1.1; exact Or.inr q0)
                      refine r_istore_n (ls' := [(3, zI a_134), (0, zR 33), (1, zI b), (2, zI n)]) 3 dM_readsHotel_137 rfl (by decide) rfl ?_
                      refine r_goto 109 dM_readsHotel_138 (by decide) ?_
                      exact ih_109 a_134 w_134 (hfr.trans (by rcases h_134 with ⟨q0, q1, q2, q3, q4, q5, q6⟩ | ⟨q0, q1, q2⟩; exact (fun i j z1 z2 => by rw [q6 i j (by omega), if_neg (by omega), if_neg (by omega)]); exact (fun i j z1 z2 => q1 i j (by omega)))) (by omega) (by rcases h_134 with ⟨q0, q1, q2, q3, q4, q5, q6⟩ | ⟨q0, q1, q2⟩; exact Or.inl ⟨q0, hI1.step rfl hk4.1 q1 q2 q3 q4 q5 q6⟩; exact Or.inr ⟨q0, zFl_d a1 hk4.1 hk4.2 a4 (by omega) q2⟩) (by omega)
            exact L_109 11 0 w_93 (by first | exact (fun i j q1 q2 => by rw [ew_93, zput_e, if_neg (by omega), ew_68, zput_e, if_neg (by omega), ew_47, zput_e, if_neg (by omega), ew_12, zput_e, if_neg (by omega), ew_7, zput_e, if_neg (by omega), ew_2, zput_e, if_neg (by omega)]) | exact (fun i j q1 q2 => by rw [ew_93, zput_e, if_neg (by omega), ew_68, zput_e, if_neg (by omega), h_60.1 _ _ (by omega), ew_47, zput_e, if_neg (by omega), ew_12, zput_e, if_neg (by omega), ew_7, zput_e, if_neg (by omega), ew_2, zput_e, if_neg (by omega)]) | exact (fun i j q1 q2 => by rw [ew_93, zput_e, if_neg (by omega), h_85.1 _ _ (by omega), ew_68, zput_e, if_neg (by omega), h_60.1 _ _ (by omega), ew_47, zput_e, if_neg (by omega), ew_12, zput_e, if_neg (by omega), ew_7, zput_e, if_neg (by omega), ew_2, zput_e, if_neg (by omega)]) | (exfalso; omega)) (by have e13 : w_93.1 33 13 = 0 := (by first | rw [ew_93, zput_k _ _ (by decide), ew_68, zput_k _ _ (by decide), ew_47, zput_k _ _ (by decide), ew_12, zput_k _ _ (by decide), ew_7, zput_s] | rw [ew_93, zput_k _ _ (by decide), ew_68, zput_k _ _ (by decide), h_60.1 _ _ (by omega), ew_47, zput_k _ _ (by decide), ew_12, zput_k _ _ (by decide), ew_7, zput_s] | rw [ew_93, zput_k _ _ (by decide), h_85.1 _ _ (by omega), ew_68, zput_k _ _ (by decide), h_60.1 _ _ (by omega), ew_47, zput_k _ _ (by decide), ew_12, zput_k _ _ (by decide), ew_7, zput_s] | (exfalso; omega)); rw [e13]; decide) (by first | (exfalso; omega) | exact Or.inr ⟨rfl, (by have e10 : w_93.1 33 10 = 0 := (by rw [ew_93, zput_k _ _ (by decide), ew_68, zput_k _ _ (by decide), ew_47, zput_s]; omega); rw [e10]; exact zFl_0 (by omega))⟩ | exact Or.inr ⟨rfl, (by have e10 : w_93.1 33 10 = 1 := (by rw [ew_93, zput_k _ _ (by decide), ew_68, zput_k _ _ (by decide)]; omega); rw [e10]; exact zFl_1 (by omega) (by omega))⟩ | exact Or.inr ⟨rfl, (by have e10 : w_93.1 33 10 = 2 := (by rw [ew_93, zput_k _ _ (by decide)]; omega); rw [e10]; exact zFl_2 (by omega) (by omega) (by omega))⟩ | exact Or.inl ⟨rfl, (by have e13 : w_93.1 33 13 = 0 := (by rw [ew_93, zput_k _ _ (by decide), h_85.1 _ _ (by omega), ew_68, zput_k _ _ (by decide), h_60.1 _ _ (by omega), ew_47, zput_k _ _ (by decide), ew_12, zput_k _ _ (by decide), ew_7, zput_s]); have e10 : w_93.1 33 10 = 3 := (by rw [ew_93, zput_k _ _ (by decide)]; omega); have e14 : w_93.1 33 14 = 0 := (by rw [ew_93, zput_k _ _ (by decide), h_85.1 _ _ (by omega), ew_68, zput_k _ _ (by decide), h_60.1 _ _ (by omega), ew_47, zput_k _ _ (by decide), ew_12, zput_s]); have e11 : w_93.1 33 11 = a_60 := (by rw [ew_93, zput_k _ _ (by decide), h_85.1 _ _ (by omega), ew_68, zput_s]); have e12 : w_93.1 33 12 = a_85 := (by rw [ew_93, zput_s]); unfold zI1; rw [e13]; exact ⟨⟨by omega, by omega, by omega⟩, zRS.fr hT3 (fun q => by rw [ew_93, zput_i _ _ _ _ (by decide)]) (by omega), by omega, rfl, e14, by omega, by omega, fun d d0 d1 => absurd d1 (by omega)⟩)⟩) (by have e13 : w_93.1 33 13 = 0 := (by first | rw [ew_93, zput_k _ _ (by decide), ew_68, zput_k _ _ (by decide), ew_47, zput_k _ _ (by decide), ew_12, zput_k _ _ (by decide), ew_7, zput_s] | rw [ew_93, zput_k _ _ (by decide), ew_68, zput_k _ _ (by decide), h_60.1 _ _ (by omega), ew_47, zput_k _ _ (by decide), ew_12, zput_k _ _ (by decide), ew_7, zput_s] | rw [ew_93, zput_k _ _ (by decide), h_85.1 _ _ (by omega), ew_68, zput_k _ _ (by decide), h_60.1 _ _ (by omega), ew_47, zput_k _ _ (by decide), ew_12, zput_k _ _ (by decide), ew_7, zput_s] | (exfalso; omega)); rw [e13]; decide)
          · refine r_iconst dM_readsHotel_103 ?_
            refine r_goto 108 dM_readsHotel_104 (by decide) ?_
            refine r_istore_n (ls' := [(3, zI 1), (0, zR 33), (1, zI b), (2, zI n)]) 3 dM_readsHotel_108 rfl (by decide) rfl ?_
            have L_109 : ∀ (n_109 : Nat) (ok : Int) (wl : zW) (hfr : zFr5 w wl) (hk4 : 0 ≤ wl.1 33 13 ∧ wl.1 33 13 ≤ 4) (hI : (ok = 1 ∧ zI1 wl b c n) ∨ (ok = 0 ∧ zFl c n (wl.1 33 10))), 6 * ok + 4 - wl.1 33 13 < (n_109 : Int) → zM mM_readsHotel (zZm 3 (zrI fun a w' => zFr5 w w' ∧ ((a = 1 ∧ zTx c n = (true, n, w'.1 33 13, w'.1 33 14) ∧ zI2 w' b c n ∧ 2 ≤ w'.1 33 14) ∨ (a = 0 ∧ zFl c n (w'.1 33 10))))) 109 [(3, zI ok), (0, zR 33), (1, zI b), (2, zI n)] [] wl := by
              intro n_109
              induction n_109 with
              | zero => intro ok wl hfr hk4 hI hm_109; exfalso; omega
              | succ n_109 ih_109 =>
                intro ok wl hfr hk4 hI hm_109
                refine r_ok (fun hOl => ?_)
                refine r_iload_n 3 0 dM_readsHotel_109 rfl rfl ?_
                refine r_if_eq 141 dM_readsHotel_110 (by decide) ⟨by omega, by omega⟩ (fun c_110 => ?_) (fun c_110 => ?_)
                · have L_141 : ∀ (n_141 : Nat) (ok : Int) (wm : zW) (hfm : zFr5 w wm) (hj6 : 0 ≤ wm.1 33 14 ∧ wm.1 33 14 ≤ 6) (hJ : (ok = 1 ∧ zI2 wm b c n) ∨ (ok = 0 ∧ zFl c n (wm.1 33 10))), 8 * ok + 6 - wm.1 33 14 < (n_141 : Int) → zM mM_readsHotel (zZm 3 (zrI fun a w' => zFr5 w w' ∧ ((a = 1 ∧ zTx c n = (true, n, w'.1 33 13, w'.1 33 14) ∧ zI2 w' b c n ∧ 2 ≤ w'.1 33 14) ∨ (a = 0 ∧ zFl c n (w'.1 33 10))))) 141 [(3, zI ok), (0, zR 33), (1, zI b), (2, zI n)] [] wm := by
                    intro n_141
                    induction n_141 with
                    | zero => intro ok wm hfm hj6 hJ hm_141; exfalso; omega
                    | succ n_141 ih_141 =>
                      intro ok wm hfm hj6 hJ hm_141
                      refine r_ok (fun hOm => ?_)
                      refine r_iload_n 3 0 dM_readsHotel_141 rfl rfl ?_
                      refine r_if_eq 171 dM_readsHotel_142 (by decide) ⟨by omega, by omega⟩ (fun c_142 => ?_) (fun c_142 => ?_)
                      · refine r_iload_n 3 0 dM_readsHotel_171 rfl rfl ?_
                        refine r_zret rfl (by omega) dM_readsHotel_172 ⟨_, rfl, ?_⟩
                        exact ⟨hfm, by first | (refine Or.inr ?_; rcases hJ with q | q; (exfalso; omega); exact q) | exact Or.inl ⟨by omega, hI2.fin (by omega) hj6.2 (by omega), hI2, by omega⟩⟩
                      · obtain ⟨_, a1, a2, a3, a4, a5, a6, a7, a8, a9, a10⟩ : ok = 1 ∧ zI2 wm b c n := (by rcases hJ with q | q; exact q; exact absurd q.1 (by omega))
                        have hI2 : zI2 wm b c n := ⟨a1, a2, a3, a4, a5, a6, a7, a8, a9, a10⟩
                        have hp10 := a2.2
                        refine r_aload_n 0 1 dM_readsHotel_145 rfl rfl ?_
                        refine r_getI (k := 14) fX7 rfl rfl (by decide) kw_519 rfl 14 rfl dM_readsHotel_146 rfl (fun y_146 ey_146 ly_146 uy_146 => ?_)
                        refine r_iconst dM_readsHotel_149 ?_
                        refine r_ic_lt 161 dM_readsHotel_150 (by decide) ⟨by omega, by omega⟩ ⟨by omega, by omega⟩ (fun c_150 => ?_) (fun c_150 => ?_)
                        · refine r_aload_n 0 1 dM_readsHotel_161 rfl rfl ?_
                          refine r_iload_n 1 2 dM_readsHotel_162 rfl rfl ?_
                          refine r_iload_n 2 3 dM_readsHotel_163 rfl rfl ?_
                          refine r_cVI (cM_readsGuest wm b n c (wm.1 33 13) (wm.1 33 14) (by omega) (by omega) (by omega) (by omega) a2 rfl (by omega) (by omega) rfl (by omega) (by omega)) qM_readsGuest rfl kw_663 rfl rfl dM_readsHotel_164 (st0 := [zI n, zI b, zR 33]) (st := []) rfl ⟨Nat.le_of_ble_eq_true rfl, Nat.le_of_ble_eq_true rfl⟩ ⟨Nat.le_of_ble_eq_true rfl, Nat.le_of_ble_eq_true rfl⟩ (Nat.le_of_ble_eq_true rfl) (fun a_164 w_164 h_164 ok_164 => ?_)
                          have hj14 : (a_164 = 1 ∧ w_164.1 33 14 = wm.1 33 14 + 1) ∨ (a_164 = 0 ∧ w_164.1 33 14 = wm.1 33 14) := (by rcases h_164 with ⟨q0, q1, q2, q3, q4, q5, q6, q7⟩ | ⟨q0, q1, q2⟩; exact Or.inl ⟨q0, q6⟩; exact Or.inr ⟨q0, q1 _ _ (by omega)⟩)
                          have hj164 : wm.1 33 14 < 6 ∨ a_164 = 0 := (by rcases h_164 with ⟨q0, q1, q2, q3, q4, q5, q6, q7⟩ | ⟨q0, q1, q2⟩; exact Or.inl q1.1; exact Or.inr q0)
                          refine r_istore_n (ls' := [(3, zI a_164), (0, zR 33), (1, zI b), (2, zI n)]) 3 dM_readsHotel_167 rfl (by decide) rfl ?_
                          refine r_goto 141 dM_readsHotel_168 (by decide) ?_
                          exact ih_141 a_164 w_164 (hfm.trans (by rcases h_164 with ⟨q0, q1, q2, q3, q4, q5, q6, q7⟩ | ⟨q0, q1, q2⟩; exact (fun i j z1 z2 => by rw [q7 i j (by omega), if_neg (by omega), if_neg (by omega), if_neg (by omega)]); exact (fun i j z1 z2 => q1 i j (by omega)))) (by omega) (by rcases h_164 with ⟨q0, q1, q2, q3, q4, q5, q6, q7⟩ | ⟨q0, q1, q2⟩; exact Or.inl ⟨q0, hI2.step rfl rfl hj6.1 q1 q2 q3 q4 q5 q6 q7⟩; exact Or.inr ⟨q0, zFl_g a1 a5 hj6.2 a6 (by omega) q2⟩) (by omega)
                        · refine r_aload_n 0 1 dM_readsHotel_153 rfl rfl ?_
                          refine r_getI (k := 10) fX7 rfl rfl (by decide) kw_515 rfl 10 rfl dM_readsHotel_154 rfl (fun y_154 ey_154 ly_154 uy_154 => ?_)
                          refine r_iload_n 2 3 dM_readsHotel_157 rfl rfl ?_
                          refine r_ic_ge 171 dM_readsHotel_158 (by decide) ⟨by omega, by omega⟩ ⟨by omega, by omega⟩ (fun c_158 => ?_) (fun c_158 => ?_)
                          · refine r_iload_n 3 0 dM_readsHotel_171 rfl rfl ?_
                            refine r_zret rfl (by omega) dM_readsHotel_172 ⟨_, rfl, ?_⟩
                            exact ⟨hfm, by first | (refine Or.inr ?_; rcases hJ with q | q; (exfalso; omega); exact q) | exact Or.inl ⟨by omega, hI2.fin (by omega) hj6.2 (by omega), hI2, by omega⟩⟩
                          · refine r_aload_n 0 1 dM_readsHotel_161 rfl rfl ?_
                            refine r_iload_n 1 2 dM_readsHotel_162 rfl rfl ?_
                            refine r_iload_n 2 3 dM_readsHotel_163 rfl rfl ?_
                            refine r_cVI (cM_readsGuest wm b n c (wm.1 33 13) (wm.1 33 14) (by omega) (by omega) (by omega) (by omega) a2 rfl (by omega) (by omega) rfl (by omega) (by omega)) qM_readsGuest rfl kw_663 rfl rfl dM_readsHotel_164 (st0 := [zI n, zI b, zR 33]) (st := []) rfl ⟨Nat.le_of_ble_eq_true rfl, Nat.le_of_ble_eq_true rfl⟩ ⟨Nat.le_of_ble_eq_true rfl, Nat.le_of_ble_eq_true rfl⟩ (Nat.le_of_ble_eq_true rfl) (fun a_164 w_164 h_164 ok_164 => ?_)
                            have hj14 : (a_164 = 1 ∧ w_164.1 33 14 = wm.1 33 14 + 1) ∨ (a_164 = 0 ∧ w_164.1 33 14 = wm.1 33 14) := (by rcases h_164 with ⟨q0, q1, q2, q3, q4, q5, q6, q7⟩ | ⟨q0, q1, q2⟩; exact Or.inl ⟨q0, q6⟩; exact Or.inr ⟨q0, q1 _ _ (by omega)⟩)
                            have hj164 : wm.1 33 14 < 6 ∨ a_164 = 0 := (by rcases h_164 with ⟨q0, q1, q2, q3, q4, q5, q6, q7⟩ | ⟨q0, q1, q2⟩; exact Or.inl q1.1; exact Or.inr q0)
                            refine r_istore_n (ls' := [(3, zI a_164), (0, zR 33), (1, zI b), (2, zI n)]) 3 dM_readsHotel_167 rfl (by decide) rfl ?_
                            refine r_goto 141 dM_readsHotel_168 (by decide) ?_
                            exact ih_141 a_164 w_164 (hfm.trans (by rcases h_164 with ⟨q0, q1, q2, q3, q4, q5, q6, q7⟩ | ⟨q0, q1, q2⟩; exact (fun i j z1 z2 => by rw [q7 i j (by omega), if_neg (by omega), if_neg (by omega), if_neg (by omega)]); exact (fun i j z1 z2 => q1 i j (by omega)))) (by omega) (by rcases h_164 with ⟨q0, q1, q2, q3, q4, q5, q6, q7⟩ | ⟨q0, q1, q2⟩; exact Or.inl ⟨q0, hI2.step rfl rfl hj6.1 q1 q2 q3 q4 q5 q6 q7⟩; exact Or.inr ⟨q0, zFl_g a1 a5 hj6.2 a6 (by omega) q2⟩) (by omega)
                  exact L_141 15 ok wl hfr (‹zOk wl› 33 14) (by first | (refine Or.inr ?_; rcases hI with q | q; (exfalso; omega); exact q) | exact Or.inl ⟨by omega, hI1.fin (by omega) (by omega) (by omega)⟩) (by have := ‹zOk wl› 33 14; change 0 ≤ wl.1 33 14 ∧ wl.1 33 14 ≤ 6 at this; omega)
                · obtain ⟨_, a1, a2, a3, a4, a5, a6, a7, a8⟩ : ok = 1 ∧ zI1 wl b c n := (by rcases hI with q | q; exact q; exact absurd q.1 (by omega))
                  have hI1 : zI1 wl b c n := ⟨a1, a2, a3, a4, a5, a6, a7, a8⟩
                  refine r_aload_n 0 1 dM_readsHotel_113 rfl rfl ?_
                  refine r_getI (k := 13) fX7 rfl rfl (by decide) kw_518 rfl 13 rfl dM_readsHotel_114 rfl (fun y_114 ey_114 ly_114 uy_114 => ?_)
                  refine r_if_eq 131 dM_readsHotel_117 (by decide) ⟨by omega, by omega⟩ (fun c_117 => ?_) (fun c_117 => ?_)
                  · refine r_aload_n 0 1 dM_readsHotel_131 rfl rfl ?_
                    refine r_iload_n 1 2 dM_readsHotel_132 rfl rfl ?_
                    refine r_iload_n 2 3 dM_readsHotel_133 rfl rfl ?_
                    refine r_cVI (cM_readsDoing wl b n c (wl.1 33 13) (by omega) (by omega) (by omega) (by omega) a2 rfl (by omega) (by omega)) qM_readsDoing rfl kw_659 rfl rfl dM_readsHotel_134 (st0 := [zI n, zI b, zR 33]) (st := []) rfl ⟨Nat.le_of_ble_eq_true rfl, Nat.le_of_ble_eq_true rfl⟩ ⟨Nat.le_of_ble_eq_true rfl, Nat.le_of_ble_eq_true rfl⟩ (Nat.le_of_ble_eq_true rfl) (fun a_134 w_134 h_134 ok_134 => ?_)
                    have hk13 : (a_134 = 1 ∧ w_134.1 33 13 = wl.1 33 13 + 1) ∨ (a_134 = 0 ∧ w_134.1 33 13 = wl.1 33 13) := (by rcases h_134 with ⟨q0, q1, q2, q3, q4, q5, q6⟩ | ⟨q0, q1, q2⟩; exact Or.inl ⟨q0, q5⟩; exact Or.inr ⟨q0, q1 _ _ (by omega)⟩)
                    have hk134 : wl.1 33 13 < 4 ∨ a_134 = 0 := (by rcases h_134 with ⟨q0, q1, q2, q3, q4, q5, q6⟩ | ⟨q0, q1, q2⟩; exact Or.inl q1.1; exact Or.inr q0)
                    refine r_istore_n (ls' := [(3, zI a_134), (0, zR 33), (1, zI b), (2, zI n)]) 3 dM_readsHotel_137 rfl (by decide) rfl ?_
                    refine r_goto 109 dM_readsHotel_138 (by decide) ?_
                    exact ih_109 a_134 w_134 (hfr.trans (by rcases h_134 with ⟨q0, q1, q2, q3, q4, q5, q6⟩ | ⟨q0, q1, q2⟩; exact (fun i j z1 z2 => by rw [q6 i j (by omega), if_neg (by omega), if_neg (by omega)]); exact (fun i j z1 z2 => q1 i j (by omega)))) (by omega) (by rcases h_134 with ⟨q0, q1, q2, q3, q4, q5, q6⟩ | ⟨q0, q1, q2⟩; exact Or.inl ⟨q0, hI1.step rfl hk4.1 q1 q2 q3 q4 q5 q6⟩; exact Or.inr ⟨q0, zFl_d a1 hk4.1 hk4.2 a4 (by omega) q2⟩) (by omega)
                  · refine r_aload_n 0 1 dM_readsHotel_120 rfl rfl ?_
                    refine r_iload_n 1 2 dM_readsHotel_121 rfl rfl ?_
                    refine r_iload_n 2 3 dM_readsHotel_122 rfl rfl ?_
                    refine r_cVI (cM_codeAt wl b n c (3 + 3 * wl.1 33 13) (by omega) (by omega) (by omega) (by omega) a2) qM_codeAt rfl kw_651 rfl rfl dM_readsHotel_123 (st0 := [zI n, zI b, zR 33]) (st := []) rfl ⟨Nat.le_of_ble_eq_true rfl, Nat.le_of_ble_eq_true rfl⟩ ⟨Nat.le_of_ble_eq_true rfl, Nat.le_of_ble_eq_true rfl⟩ (Nat.le_of_ble_eq_true rfl) (fun a_123 w_123 h_123 ok_123 => ?_)
                    obtain ⟨rfl, h_123⟩ := h_123
                    refine r_bipush dM_readsHotel_126 (by decide) ?_
                    refine r_ic_ne 141 dM_readsHotel_128 (by decide) ⟨by omega, by omega⟩ ⟨by omega, by omega⟩ (fun c_128 => ?_) (fun c_128 => ?_)
                    · have L_141 : ∀ (n_141 : Nat) (ok : Int) (wm : zW) (hfm : zFr5 w wm) (hj6 : 0 ≤ wm.1 33 14 ∧ wm.1 33 14 ≤ 6) (hJ : (ok = 1 ∧ zI2 wm b c n) ∨ (ok = 0 ∧ zFl c n (wm.1 33 10))), 8 * ok + 6 - wm.1 33 14 < (n_141 : Int) → zM mM_readsHotel (zZm 3 (zrI fun a w' => zFr5 w w' ∧ ((a = 1 ∧ zTx c n = (true, n, w'.1 33 13, w'.1 33 14) ∧ zI2 w' b c n ∧ 2 ≤ w'.1 33 14) ∨ (a = 0 ∧ zFl c n (w'.1 33 10))))) 141 [(3, zI ok), (0, zR 33), (1, zI b), (2, zI n)] [] wm := by
                        intro n_141
                        induction n_141 with
                        | zero => intro ok wm hfm hj6 hJ hm_141; exfalso; omega
                        | succ n_141 ih_141 =>
                          intro ok wm hfm hj6 hJ hm_141
                          refine r_ok (fun hOm => ?_)
                          refine r_iload_n 3 0 dM_readsHotel_141 rfl rfl ?_
                          refine r_if_eq 171 dM_readsHotel_142 (by decide) ⟨by omega, by omega⟩ (fun c_142 => ?_) (fun c_142 => ?_)
                          · refine r_iload_n 3 0 dM_readsHotel_171 rfl rfl ?_
                            refine r_zret rfl (by omega) dM_readsHotel_172 ⟨_, rfl, ?_⟩
                            exact ⟨hfm, by first | (refine Or.inr ?_; rcases hJ with q | q; (exfalso; omega); exact q) | exact Or.inl ⟨by omega, hI2.fin (by omega) hj6.2 (by omega), hI2, by omega⟩⟩
                          · obtain ⟨_, a1, a2, a3, a4, a5, a6, a7, a8, a9, a10⟩ : ok = 1 ∧ zI2 wm b c n := (by rcases hJ with q | q; exact q; exact absurd q.1 (by omega))
                            have hI2 : zI2 wm b c n := ⟨a1, a2, a3, a4, a5, a6, a7, a8, a9, a10⟩
                            have hp10 := a2.2
                            refine r_aload_n 0 1 dM_readsHotel_145 rfl rfl ?_
                            refine r_getI (k := 14) fX7 rfl rfl (by decide) kw_519 rfl 14 rfl dM_readsHotel_146 rfl (fun y_146 ey_146 ly_146 uy_146 => ?_)
                            refine r_iconst dM_readsHotel_149 ?_
                            refine r_ic_lt 161 dM_readsHotel_150 (by decide) ⟨by omega, by omega⟩ ⟨by omega, by omega⟩ (fun c_150 => ?_) (fun c_150 => ?_)
                            · refine r_aload_n 0 1 dM_readsHotel_161 rfl rfl ?_
                              refine r_iload_n 1 2 dM_readsHotel_162 rfl rfl ?_
                              refine r_iload_n 2 3 dM_readsHotel_163 rfl rfl ?_
                              refine r_cVI (cM_readsGuest wm b n c (wm.1 33 13) (wm.1 33 14) (by omega) (by omega) (by omega) (by omega) a2 rfl (by omega) (by omega) rfl (by omega) (by omega)) qM_readsGuest rfl kw_663 rfl rfl dM_readsHotel_164 (st0 := [zI n, zI b, zR 33]) (st := []) rfl ⟨Nat.le_of_ble_eq_true rfl, Nat.le_of_ble_eq_true rfl⟩ ⟨Nat.le_of_ble_eq_true rfl, Nat.le_of_ble_eq_true rfl⟩ (Nat.le_of_ble_eq_true rfl) (fun a_164 w_164 h_164 ok_164 => ?_)
                              have hj14 : (a_164 = 1 ∧ w_164.1 33 14 = wm.1 33 14 + 1) ∨ (a_164 = 0 ∧ w_164.1 33 14 = wm.1 33 14) := (by rcases h_164 with ⟨q0, q1, q2, q3, q4, q5, q6, q7⟩ | ⟨q0, q1, q2⟩; exact Or.inl ⟨q0, q6⟩; exact Or.inr ⟨q0, q1 _ _ (by omega)⟩)
                              have hj164 : wm.1 33 14 < 6 ∨ a_164 = 0 := (by rcases h_164 with ⟨q0, q1, q2, q3, q4, q5, q6, q7⟩ | ⟨q0, q1, q2⟩; exact Or.inl q1.1; exact Or.inr q0)
                              refine r_istore_n (ls' := [(3, zI a_164), (0, zR 33), (1, zI b), (2, zI n)]) 3 dM_readsHotel_167 rfl (by decide) rfl ?_
                              refine r_goto 141 dM_readsHotel_168 (by decide) ?_
                              exact ih_141 a_164 w_164 (hfm.trans (by rcases h_164 with ⟨q0, q1, q2, q3, q4, q5, q6, q7⟩ | ⟨q0, q1, q2⟩; exact (fun i j z1 z2 => by rw [q7 i j (by omega), if_neg (by omega), if_neg (by omega), if_neg (by omega)]); exact (fun i j z1 z2 => q1 i j (by omega)))) (by omega) (by rcases h_164 with ⟨q0, q1, q2, q3, q4, q5, q6, q7⟩ | ⟨q0, q1, q2⟩; exact Or.inl ⟨q0, hI2.step rfl rfl hj6.1 q1 q2 q3 q4 q5 q6 q7⟩; exact Or.inr ⟨q0, zFl_g a1 a5 hj6.2 a6 (by omega) q2⟩) (by omega)
                            · refine r_aload_n 0 1 dM_readsHotel_153 rfl rfl ?_
                              refine r_getI (k := 10) fX7 rfl rfl (by decide) kw_515 rfl 10 rfl dM_readsHotel_154 rfl (fun y_154 ey_154 ly_154 uy_154 => ?_)
                              refine r_iload_n 2 3 dM_readsHotel_157 rfl rfl ?_
                              refine r_ic_ge 171 dM_readsHotel_158 (by decide) ⟨by omega, by omega⟩ ⟨by omega, by omega⟩ (fun c_158 => ?_) (fun c_158 => ?_)
                              · refine r_iload_n 3 0 dM_readsHotel_171 rfl rfl ?_
                                refine r_zret rfl (by omega) dM_readsHotel_172 ⟨_, rfl, ?_⟩
                                exact ⟨hfm, by first | (refine Or.inr ?_; rcases hJ with q | q; (exfalso; omega); exact q) | exact Or.inl ⟨by omega, hI2.fin (by omega) hj6.2 (by omega), hI2, by omega⟩⟩
                              · refine r_aload_n 0 1 dM_readsHotel_161 rfl rfl ?_
                                refine r_iload_n 1 2 dM_readsHotel_162 rfl rfl ?_
                                refine r_iload_n 2 3 dM_readsHotel_163 rfl rfl ?_
                                refine r_cVI (cM_readsGuest wm b n c (wm.1 33 13) (wm.1 33 14) (by omega) (by omega) (by omega) (by omega) a2 rfl (by omega) (by omega) rfl (by omega) (by omega)) qM_readsGuest rfl kw_663 rfl rfl dM_readsHotel_164 (st0 := [zI n, zI b, zR 33]) (st := []) rfl ⟨Nat.le_of_ble_eq_true rfl, Nat.le_of_ble_eq_true rfl⟩ ⟨Nat.le_of_ble_eq_true rfl, Nat.le_of_ble_eq_true rfl⟩ (Nat.le_of_ble_eq_true rfl) (fun a_164 w_164 h_164 ok_164 => ?_)
                                have hj14 : (a_164 = 1 ∧ w_164.1 33 14 = wm.1 33 14 + 1) ∨ (a_164 = 0 ∧ w_164.1 33 14 = wm.1 33 14) := (by rcases h_164 with ⟨q0, q1, q2, q3, q4, q5, q6, q7⟩ | ⟨q0, q1, q2⟩; exact Or.inl ⟨q0, q6⟩; exact Or.inr ⟨q0, q1 _ _ (by omega)⟩)
                                have hj164 : wm.1 33 14 < 6 ∨ a_164 = 0 := (by rcases h_164 with ⟨q0, q1, q2, q3, q4, q5, q6, q7⟩ | ⟨q0, q1, q2⟩; exact Or.inl q1.1; exact Or.inr q0)
                                refine r_istore_n (ls' := [(3, zI a_164), (0, zR 33), (1, zI b), (2, zI n)]) 3 dM_readsHotel_167 rfl (by decide) rfl ?_
                                refine r_goto 141 dM_readsHotel_168 (by decide) ?_
                                exact ih_141 a_164 w_164 (hfm.trans (by rcases h_164 with ⟨q0, q1, q2, q3, q4, q5, q6, q7⟩ | ⟨q0, q1, q2⟩; exact (fun i j z1 z2 => by rw [q7 i j (by omega), if_neg (by omega), if_neg (by omega), if_neg (by omega)]); exact (fun i j z1 z2 => q1 i j (by omega)))) (by omega) (by rcases h_164 with ⟨q0, q1, q2, q3, q4, q5, q6, q7⟩ | ⟨q0, q1, q2⟩; exact Or.inl ⟨q0, hI2.step rfl rfl hj6.1 q1 q2 q3 q4 q5 q6 q7⟩; exact Or.inr ⟨q0, zFl_g a1 a5 hj6.2 a6 (by omega) q2⟩) (by omega)
                      exact L_141 15 ok wl hfr (‹zOk wl› 33 14) (by first | (refine Or.inr ?_; rcases hI with q | q; (exfalso; omega); exact q) | exact Or.inl ⟨by omega, hI1.fin (by omega) (by omega) (by omega)⟩) (by have := ‹zOk wl› 33 14; change 0 ≤ wl.1 33 14 ∧ wl.1 33 14 ≤ 6 at this; omega)
                    · refine r_aload_n 0 1 dM_readsHotel_131 rfl rfl ?_
                      refine r_iload_n 1 2 dM_readsHotel_132 rfl rfl ?_
                      refine r_iload_n 2 3 dM_readsHotel_133 rfl rfl ?_
                      refine r_cVI (cM_readsDoing wl b n c (wl.1 33 13) (by omega) (by omega) (by omega) (by omega) a2 rfl (by omega) (by omega)) qM_readsDoing rfl kw_659 rfl rfl dM_readsHotel_134 (st0 := [zI n, zI b, zR 33]) (st := []) rfl ⟨Nat.le_of_ble_eq_true rfl, Nat.le_of_ble_eq_true rfl⟩ ⟨Nat.le_of_ble_eq_true rfl, Nat.le_of_ble_eq_true rfl⟩ (Nat.le_of_ble_eq_true rfl) (fun a_134 w_134 h_134 ok_134 => ?_)
                      have hk13 : (a_134 = 1 ∧ w_134.1 33 13 = wl.1 33 13 + 1) ∨ (a_134 = 0 ∧ w_134.1 33 13 = wl.1 33 13) := (by rcases h_134 with ⟨q0, q1, q2, q3, q4, q5, q6⟩ | ⟨q0, q1, q2⟩; exact Or.inl ⟨q0, q5⟩; exact Or.inr ⟨q0, q1 _ _ (by omega)⟩)
                      have hk134 : wl.1 33 13 < 4 ∨ a_134 = 0 := (by rcases h_134 with ⟨q0, q1, q2, q3, q4, q5, q6⟩ | ⟨q0, q1, q2⟩; exact Or.inl q1.1; exact Or.inr q0)
                      refine r_istore_n (ls' := [(3, zI a_134), (0, zR 33), (1, zI b), (2, zI n)]) 3 dM_readsHotel_137 rfl (by decide) rfl ?_
                      refine r_goto 109 dM_readsHotel_138 (by decide) ?_
                      exact ih_109 a_134 w_134 (hfr.trans (by rcases h_134 with ⟨q0, q1, q2, q3, q4, q5, q6⟩ | ⟨q0, q1, q2⟩; exact (fun i j z1 z2 => by rw [q6 i j (by omega), if_neg (by omega), if_neg (by omega)]); exact (fun i j z1 z2 => q1 i j (by omega)))) (by omega) (by rcases h_134 with ⟨q0, q1, q2, q3, q4, q5, q6⟩ | ⟨q0, q1, q2⟩; exact Or.inl ⟨q0, hI1.step rfl hk4.1 q1 q2 q3 q4 q5 q6⟩; exact Or.inr ⟨q0, zFl_d a1 hk4.1 hk4.2 a4 (by omega) q2⟩) (by omega)
            exact L_109 11 1 w_93 (by first | exact (fun i j q1 q2 => by rw [ew_93, zput_e, if_neg (by omega), ew_68, zput_e, if_neg (by omega), ew_47, zput_e, if_neg (by omega), ew_12, zput_e, if_neg (by omega), ew_7, zput_e, if_neg (by omega), ew_2, zput_e, if_neg (by omega)]) | exact (fun i j q1 q2 => by rw [ew_93, zput_e, if_neg (by omega), ew_68, zput_e, if_neg (by omega), h_60.1 _ _ (by omega), ew_47, zput_e, if_neg (by omega), ew_12, zput_e, if_neg (by omega), ew_7, zput_e, if_neg (by omega), ew_2, zput_e, if_neg (by omega)]) | exact (fun i j q1 q2 => by rw [ew_93, zput_e, if_neg (by omega), h_85.1 _ _ (by omega), ew_68, zput_e, if_neg (by omega), h_60.1 _ _ (by omega), ew_47, zput_e, if_neg (by omega), ew_12, zput_e, if_neg (by omega), ew_7, zput_e, if_neg (by omega), ew_2, zput_e, if_neg (by omega)]) | (exfalso; omega)) (by have e13 : w_93.1 33 13 = 0 := (by first | rw [ew_93, zput_k _ _ (by decide), ew_68, zput_k _ _ (by decide), ew_47, zput_k _ _ (by decide), ew_12, zput_k _ _ (by decide), ew_7, zput_s] | rw [ew_93, zput_k _ _ (by decide), ew_68, zput_k _ _ (by decide), h_60.1 _ _ (by omega), ew_47, zput_k _ _ (by decide), ew_12, zput_k _ _ (by decide), ew_7, zput_s] | rw [ew_93, zput_k _ _ (by decide), h_85.1 _ _ (by omega), ew_68, zput_k _ _ (by decide), h_60.1 _ _ (by omega), ew_47, zput_k _ _ (by decide), ew_12, zput_k _ _ (by decide), ew_7, zput_s] | (exfalso; omega)); rw [e13]; decide) (by first | (exfalso; omega) | exact Or.inr ⟨rfl, (by have e10 : w_93.1 33 10 = 0 := (by rw [ew_93, zput_k _ _ (by decide), ew_68, zput_k _ _ (by decide), ew_47, zput_s]; omega); rw [e10]; exact zFl_0 (by omega))⟩ | exact Or.inr ⟨rfl, (by have e10 : w_93.1 33 10 = 1 := (by rw [ew_93, zput_k _ _ (by decide), ew_68, zput_k _ _ (by decide)]; omega); rw [e10]; exact zFl_1 (by omega) (by omega))⟩ | exact Or.inr ⟨rfl, (by have e10 : w_93.1 33 10 = 2 := (by rw [ew_93, zput_k _ _ (by decide)]; omega); rw [e10]; exact zFl_2 (by omega) (by omega) (by omega))⟩ | exact Or.inl ⟨rfl, (by have e13 : w_93.1 33 13 = 0 := (by rw [ew_93, zput_k _ _ (by decide), h_85.1 _ _ (by omega), ew_68, zput_k _ _ (by decide), h_60.1 _ _ (by omega), ew_47, zput_k _ _ (by decide), ew_12, zput_k _ _ (by decide), ew_7, zput_s]); have e10 : w_93.1 33 10 = 3 := (by rw [ew_93, zput_k _ _ (by decide)]; omega); have e14 : w_93.1 33 14 = 0 := (by rw [ew_93, zput_k _ _ (by decide), h_85.1 _ _ (by omega), ew_68, zput_k _ _ (by decide), h_60.1 _ _ (by omega), ew_47, zput_k _ _ (by decide), ew_12, zput_s]); have e11 : w_93.1 33 11 = a_60 := (by rw [ew_93, zput_k _ _ (by decide), h_85.1 _ _ (by omega), ew_68, zput_s]); have e12 : w_93.1 33 12 = a_85 := (by rw [ew_93, zput_s]); unfold zI1; rw [e13]; exact ⟨⟨by omega, by omega, by omega⟩, zRS.fr hT3 (fun q => by rw [ew_93, zput_i _ _ _ _ (by decide)]) (by omega), by omega, rfl, e14, by omega, by omega, fun d d0 d1 => absurd d1 (by omega)⟩)⟩) (by have e13 : w_93.1 33 13 = 0 := (by first | rw [ew_93, zput_k _ _ (by decide), ew_68, zput_k _ _ (by decide), ew_47, zput_k _ _ (by decide), ew_12, zput_k _ _ (by decide), ew_7, zput_s] | rw [ew_93, zput_k _ _ (by decide), ew_68, zput_k _ _ (by decide), h_60.1 _ _ (by omega), ew_47, zput_k _ _ (by decide), ew_12, zput_k _ _ (by decide), ew_7, zput_s] | rw [ew_93, zput_k _ _ (by decide), h_85.1 _ _ (by omega), ew_68, zput_k _ _ (by decide), h_60.1 _ _ (by omega), ew_47, zput_k _ _ (by decide), ew_12, zput_k _ _ (by decide), ew_7, zput_s] | (exfalso; omega)); rw [e13]; decide)
        · first | have hT2 : zRS w_68 b c 2 := (zRS.fr hT1 (p' := 2) (w' := w_60) (fun q => h_60.1 _ _ (by omega)) (by omega)).fr (fun q => by rw [ew_68, zput_i _ _ _ _ (by decide)]) (by rw [ew_68, zput_k _ _ (by decide)]; omega) | skip
          refine r_aload_n 0 1 dM_readsHotel_79 rfl rfl ?_
          refine r_iload_n 1 2 dM_readsHotel_80 rfl rfl ?_
          refine r_iload_n 2 3 dM_readsHotel_81 rfl rfl ?_
          refine r_iconst dM_readsHotel_82 ?_
          refine r_bipush dM_readsHotel_83 (by decide) ?_
          refine r_cVI (cM_figure w_68 b n 1 9 c 2 (by omega) (by omega) (by omega) (by omega) (by first | (exfalso; omega) | exact hT2) (by omega) (by omega) (by omega) (by omega)) qM_figure rfl kw_655 rfl rfl dM_readsHotel_85 (st0 := [zI 9, zI 1, zI n, zI b, zR 33, zR 33]) (st := [zR 33]) rfl ⟨Nat.le_of_ble_eq_true rfl, Nat.le_of_ble_eq_true rfl⟩ ⟨Nat.le_of_ble_eq_true rfl, Nat.le_of_ble_eq_true rfl⟩ (Nat.le_of_ble_eq_true rfl) (fun a_85 w_85 h_85 ok_85 => ?_)
          first | have hT3 : zRS w_85 b c (w_85.1 33 10) := zRS.fr hT2 (fun q => h_85.1 _ _ (by omega)) rfl | skip
          refine r_goto 93 dM_readsHotel_88 (by decide) ?_
          refine r_putI (k := 12) fX7 rfl rfl (by decide) kw_517 rfl rfl (by decide +kernel) 12 rfl dM_readsHotel_93 rfl (by omega) (by omega) (fun w_93 ew_93 => ?_)
          refine r_aload_n 0 1 dM_readsHotel_96 rfl rfl ?_
          refine r_getI (k := 12) fX7 rfl rfl (by decide) kw_517 rfl 12 rfl dM_readsHotel_97 rfl (fun y_97 ey_97 ly_97 uy_97 => ?_)
          rw [ew_93, zput_s] at ey_97
          refine r_if_le 107 dM_readsHotel_100 (by decide) ⟨by omega, by omega⟩ (fun c_100 => ?_) (fun c_100 => ?_)
          · refine r_iconst dM_readsHotel_107 ?_
            refine r_istore_n (ls' := [(3, zI 0), (0, zR 33), (1, zI b), (2, zI n)]) 3 dM_readsHotel_108 rfl (by decide) rfl ?_
            have L_109 : ∀ (n_109 : Nat) (ok : Int) (wl : zW) (hfr : zFr5 w wl) (hk4 : 0 ≤ wl.1 33 13 ∧ wl.1 33 13 ≤ 4) (hI : (ok = 1 ∧ zI1 wl b c n) ∨ (ok = 0 ∧ zFl c n (wl.1 33 10))), 6 * ok + 4 - wl.1 33 13 < (n_109 : Int) → zM mM_readsHotel (zZm 3 (zrI fun a w' => zFr5 w w' ∧ ((a = 1 ∧ zTx c n = (true, n, w'.1 33 13, w'.1 33 14) ∧ zI2 w' b c n ∧ 2 ≤ w'.1 33 14) ∨ (a = 0 ∧ zFl c n (w'.1 33 10))))) 109 [(3, zI ok), (0, zR 33), (1, zI b), (2, zI n)] [] wl := by
              intro n_109
              induction n_109 with
              | zero => intro ok wl hfr hk4 hI hm_109; exfalso; omega
              | succ n_109 ih_109 =>
                intro ok wl hfr hk4 hI hm_109
                refine r_ok (fun hOl => ?_)
                refine r_iload_n 3 0 dM_readsHotel_109 rfl rfl ?_
                refine r_if_eq 141 dM_readsHotel_110 (by decide) ⟨by omega, by omega⟩ (fun c_110 => ?_) (fun c_110 => ?_)
                · have L_141 : ∀ (n_141 : Nat) (ok : Int) (wm : zW) (hfm : zFr5 w wm) (hj6 : 0 ≤ wm.1 33 14 ∧ wm.1 33 14 ≤ 6) (hJ : (ok = 1 ∧ zI2 wm b c n) ∨ (ok = 0 ∧ zFl c n (wm.1 33 10))), 8 * ok + 6 - wm.1 33 14 < (n_141 : Int) → zM mM_readsHotel (zZm 3 (zrI fun a w' => zFr5 w w' ∧ ((a = 1 ∧ zTx c n = (true, n, w'.1 33 13, w'.1 33 14) ∧ zI2 w' b c n ∧ 2 ≤ w'.1 33 14) ∨ (a = 0 ∧ zFl c n (w'.1 33 10))))) 141 [(3, zI ok), (0, zR 33), (1, zI b), (2, zI n)] [] wm := by
                    intro n_141
                    induction n_141 with
                    | zero => intro ok wm hfm hj6 hJ hm_141; exfalso; omega
                    | succ n_141 ih_141 =>
                      intro ok wm hfm hj6 hJ hm_141
                      refine r_ok (fun hOm => ?_)
                      refine r_iload_n 3 0 dM_readsHotel_141 rfl rfl ?_
                      refine r_if_eq 171 dM_readsHotel_142 (by decide) ⟨by omega, by omega⟩ (fun c_142 => ?_) (fun c_142 => ?_)
                      · refine r_iload_n 3 0 dM_readsHotel_171 rfl rfl ?_
                        refine r_zret rfl (by omega) dM_readsHotel_172 ⟨_, rfl, ?_⟩
                        exact ⟨hfm, by first | (refine Or.inr ?_; rcases hJ with q | q; (exfalso; omega); exact q) | exact Or.inl ⟨by omega, hI2.fin (by omega) hj6.2 (by omega), hI2, by omega⟩⟩
                      · obtain ⟨_, a1, a2, a3, a4, a5, a6, a7, a8, a9, a10⟩ : ok = 1 ∧ zI2 wm b c n := (by rcases hJ with q | q; exact q; exact absurd q.1 (by omega))
                        have hI2 : zI2 wm b c n := ⟨a1, a2, a3, a4, a5, a6, a7, a8, a9, a10⟩
                        have hp10 := a2.2
                        refine r_aload_n 0 1 dM_readsHotel_145 rfl rfl ?_
                        refine r_getI (k := 14) fX7 rfl rfl (by decide) kw_519 rfl 14 rfl dM_readsHotel_146 rfl (fun y_146 ey_146 ly_146 uy_146 => ?_)
                        refine r_iconst dM_readsHotel_149 ?_
                        refine r_ic_lt 161 dM_readsHotel_150 (by decide) ⟨by omega, by omega⟩ ⟨by omega, by omega⟩ (fun c_150 => ?_) (fun c_150 => ?_)
                        · refine r_aload_n 0 1 dM_readsHotel_161 rfl rfl ?_
                          refine r_iload_n 1 2 dM_readsHotel_162 rfl rfl ?_
                          refine r_iload_n 2 3 dM_readsHotel_163 rfl rfl ?_
                          refine r_cVI (cM_readsGuest wm b n c (wm.1 33 13) (wm.1 33 14) (by omega) (by omega) (by omega) (by omega) a2 rfl (by omega) (by omega) rfl (by omega) (by omega)) qM_readsGuest rfl kw_663 rfl rfl dM_readsHotel_164 (st0 := [zI n, zI b, zR 33]) (st := []) rfl ⟨Nat.le_of_ble_eq_true rfl, Nat.le_of_ble_eq_true rfl⟩ ⟨Nat.le_of_ble_eq_true rfl, Nat.le_of_ble_eq_true rfl⟩ (Nat.le_of_ble_eq_true rfl) (fun a_164 w_164 h_164 ok_164 => ?_)
                          have hj14 : (a_164 = 1 ∧ w_164.1 33 14 = wm.1 33 14 + 1) ∨ (a_164 = 0 ∧ w_164.1 33 14 = wm.1 33 14) := (by rcases h_164 with ⟨q0, q1, q2, q3, q4, q5, q6, q7⟩ | ⟨q0, q1, q2⟩; exact Or.inl ⟨q0, q6⟩; exact Or.inr ⟨q0, q1 _ _ (by omega)⟩)
                          have hj164 : wm.1 33 14 < 6 ∨ a_164 = 0 := (by rcases h_164 with ⟨q0, q1, q2, q3, q4, q5, q6, q7⟩ | ⟨q0, q1, q2⟩; exact Or.inl q1.1; exact Or.inr q0)
                          refine r_istore_n (ls' := [(3, zI a_164), (0, zR 33), (1, zI b), (2, zI n)]) 3 dM_readsHotel_167 rfl (by decide) rfl ?_
                          refine r_goto 141 dM_readsHotel_168 (by decide) ?_
                          exact ih_141 a_164 w_164 (hfm.trans (by rcases h_164 with ⟨q0, q1, q2, q3, q4, q5, q6, q7⟩ | ⟨q0, q1, q2⟩; exact (fun i j z1 z2 => by rw [q7 i j (by omega), if_neg (by omega), if_neg (by omega), if_neg (by omega)]); exact (fun i j z1 z2 => q1 i j (by omega)))) (by omega) (by rcases h_164 with ⟨q0, q1, q2, q3, q4, q5, q6, q7⟩ | ⟨q0, q1, q2⟩; exact Or.inl ⟨q0, hI2.step rfl rfl hj6.1 q1 q2 q3 q4 q5 q6 q7⟩; exact Or.inr ⟨q0, zFl_g a1 a5 hj6.2 a6 (by omega) q2⟩) (by omega)
                        · refine r_aload_n 0 1 dM_readsHotel_153 rfl rfl ?_
                          refine r_getI (k := 10) fX7 rfl rfl (by decide) kw_515 rfl 10 rfl dM_readsHotel_154 rfl (fun y_154 ey_154 ly_154 uy_154 => ?_)
                          refine r_iload_n 2 3 dM_readsHotel_157 rfl rfl ?_
                          refine r_ic_ge 171 dM_readsHotel_158 (by decide) ⟨by omega, by omega⟩ ⟨by omega, by omega⟩ (fun c_158 => ?_) (fun c_158 => ?_)
                          · refine r_iload_n 3 0 dM_readsHotel_171 rfl rfl ?_
                            refine r_zret rfl (by omega) dM_readsHotel_172 ⟨_, rfl, ?_⟩
                            exact ⟨hfm, by first | (refine Or.inr ?_; rcases hJ with q | q; (exfalso; omega); exact q) | exact Or.inl ⟨by omega, hI2.fin (by omega) hj6.2 (by omega), hI2, by omega⟩⟩
                          · refine r_aload_n 0 1 dM_readsHotel_161 rfl rfl ?_
                            refine r_iload_n 1 2 dM_readsHotel_162 rfl rfl ?_
                            refine r_iload_n 2 3 dM_readsHotel_163 rfl rfl ?_
                            refine r_cVI (cM_readsGuest wm b n c (wm.1 33 13) (wm.1 33 14) (by omega) (by omega) (by omega) (by omega) a2 rfl (by omega) (by omega) rfl (by omega) (by omega)) qM_readsGuest rfl kw_663 rfl rfl dM_readsHotel_164 (st0 := [zI n, zI b, zR 33]) (st := []) rfl ⟨Nat.le_of_ble_eq_true rfl, Nat.le_of_ble_eq_true rfl⟩ ⟨Nat.le_of_ble_eq_true rfl, Nat.le_of_ble_eq_true rfl⟩ (Nat.le_of_ble_eq_true rfl) (fun a_164 w_164 h_164 ok_164 => ?_)
                            have hj14 : (a_164 = 1 ∧ w_164.1 33 14 = wm.1 33 14 + 1) ∨ (a_164 = 0 ∧ w_164.1 33 14 = wm.1 33 14) := (by rcases h_164 with ⟨q0, q1, q2, q3, q4, q5, q6, q7⟩ | ⟨q0, q1, q2⟩; exact Or.inl ⟨q0, q6⟩; exact Or.inr ⟨q0, q1 _ _ (by omega)⟩)
                            have hj164 : wm.1 33 14 < 6 ∨ a_164 = 0 := (by rcases h_164 with ⟨q0, q1, q2, q3, q4, q5, q6, q7⟩ | ⟨q0, q1, q2⟩; exact Or.inl q1.1; exact Or.inr q0)
                            refine r_istore_n (ls' := [(3, zI a_164), (0, zR 33), (1, zI b), (2, zI n)]) 3 dM_readsHotel_167 rfl (by decide) rfl ?_
                            refine r_goto 141 dM_readsHotel_168 (by decide) ?_
                            exact ih_141 a_164 w_164 (hfm.trans (by rcases h_164 with ⟨q0, q1, q2, q3, q4, q5, q6, q7⟩ | ⟨q0, q1, q2⟩; exact (fun i j z1 z2 => by rw [q7 i j (by omega), if_neg (by omega), if_neg (by omega), if_neg (by omega)]); exact (fun i j z1 z2 => q1 i j (by omega)))) (by omega) (by rcases h_164 with ⟨q0, q1, q2, q3, q4, q5, q6, q7⟩ | ⟨q0, q1, q2⟩; exact Or.inl ⟨q0, hI2.step rfl rfl hj6.1 q1 q2 q3 q4 q5 q6 q7⟩; exact Or.inr ⟨q0, zFl_g a1 a5 hj6.2 a6 (by omega) q2⟩) (by omega)
                  exact L_141 15 ok wl hfr (‹zOk wl› 33 14) (by first | (refine Or.inr ?_; rcases hI with q | q; (exfalso; omega); exact q) | exact Or.inl ⟨by omega, hI1.fin (by omega) (by omega) (by omega)⟩) (by have := ‹zOk wl› 33 14; change 0 ≤ wl.1 33 14 ∧ wl.1 33 14 ≤ 6 at this; omega)
                · obtain ⟨_, a1, a2, a3, a4, a5, a6, a7, a8⟩ : ok = 1 ∧ zI1 wl b c n := (by rcases hI with q | q; exact q; exact absurd q.1 (by omega))
                  have hI1 : zI1 wl b c n := ⟨a1, a2, a3, a4, a5, a6, a7, a8⟩
                  refine r_aload_n 0 1 dM_readsHotel_113 rfl rfl ?_
                  refine r_getI (k := 13) fX7 rfl rfl (by decide) kw_518 rfl 13 rfl dM_readsHotel_114 rfl (fun y_114 ey_114 ly_114 uy_114 => ?_)
                  refine r_if_eq 131 dM_readsHotel_117 (by decide) ⟨by omega, by omega⟩ (fun c_117 => ?_) (fun c_117 => ?_)
                  · refine r_aload_n 0 1 dM_readsHotel_131 rfl rfl ?_
                    refine r_iload_n 1 2 dM_readsHotel_132 rfl rfl ?_
                    refine r_iload_n 2 3 dM_readsHotel_133 rfl rfl ?_
                    refine r_cVI (cM_readsDoing wl b n c (wl.1 33 13) (by omega) (by omega) (by omega) (by omega) a2 rfl (by omega) (by omega)) qM_readsDoing rfl kw_659 rfl rfl dM_readsHotel_134 (st0 := [zI n, zI b, zR 33]) (st := []) rfl ⟨Nat.le_of_ble_eq_true rfl, Nat.le_of_ble_eq_true rfl⟩ ⟨Nat.le_of_ble_eq_true rfl, Nat.le_of_ble_eq_true rfl⟩ (Nat.le_of_ble_eq_true rfl) (fun a_134 w_134 h_134 ok_134 => ?_)
                    have hk13 : (a_134 = 1 ∧ w_134.1 33 13 = wl.1 33 13 + 1) ∨ (a_134 = 0 ∧ w_134.1 33 13 = wl.1 33 13) := (by rcases h_134 with ⟨q0, q1, q2, q3, q4, q5, q6⟩ | ⟨q0, q1, q2⟩; exact Or.inl ⟨q0, q5⟩; exact Or.inr ⟨q0, q1 _ _ (by omega)⟩)
                    have hk134 : wl.1 33 13 < 4 ∨ a_134 = 0 := (by rcases h_134 with ⟨q0, q1, q2, q3, q4, q5, q6⟩ | ⟨q0, q1, q2⟩; exact Or.inl q1.1; exact Or.inr q0)
                    refine r_istore_n (ls' := [(3, zI a_134), (0, zR 33), (1, zI b), (2, zI n)]) 3 dM_readsHotel_137 rfl (by decide) rfl ?_
                    refine r_goto 109 dM_readsHotel_138 (by decide) ?_
                    exact ih_109 a_134 w_134 (hfr.trans (by rcases h_134 with ⟨q0, q1, q2, q3, q4, q5, q6⟩ | ⟨q0, q1, q2⟩; exact (fun i j z1 z2 => by rw [q6 i j (by omega), if_neg (by omega), if_neg (by omega)]); exact (fun i j z1 z2 => q1 i j (by omega)))) (by omega) (by rcases h_134 with ⟨q0, q1, q2, q3, q4, q5, q6⟩ | ⟨q0, q1, q2⟩; exact Or.inl ⟨q0, hI1.step rfl hk4.1 q1 q2 q3 q4 q5 q6⟩; exact Or.inr ⟨q0, zFl_d a1 hk4.1 hk4.2 a4 (by omega) q2⟩) (by omega)
                  · refine r_aload_n 0 1 dM_readsHotel_120 rfl rfl ?_
                    refine r_iload_n 1 2 dM_readsHotel_121 rfl rfl ?_
                    refine r_iload_n 2 3 dM_readsHotel_122 rfl rfl ?_
                    refine r_cVI (cM_codeAt wl b n c (3 + 3 * wl.1 33 13) (by omega) (by omega) (by omega) (by omega) a2) qM_codeAt rfl kw_651 rfl rfl dM_readsHotel_123 (st0 := [zI n, zI b, zR 33]) (st := []) rfl ⟨Nat.le_of_ble_eq_true rfl, Nat.le_of_ble_eq_true rfl⟩ ⟨Nat.le_of_ble_eq_true rfl, Nat.le_of_ble_eq_true rfl⟩ (Nat.le_of_ble_eq_true rfl) (fun a_123 w_123 h_123 ok_123 => ?_)
                    obtain ⟨rfl, h_123⟩ := h_123
                    refine r_bipush dM_readsHotel_126 (by decide) ?_
                    refine r_ic_ne 141 dM_readsHotel_128 (by decide) ⟨by omega, by omega⟩ ⟨by omega, by omega⟩ (fun c_128 => ?_) (fun c_128 => ?_)
                    · have L_141 : ∀ (n_141 : Nat) (ok : Int) (wm : zW) (hfm : zFr5 w wm) (hj6 : 0 ≤ wm.1 33 14 ∧ wm.1 33 14 ≤ 6) (hJ : (ok = 1 ∧ zI2 wm b c n) ∨ (ok = 0 ∧ zFl c n (wm.1 33 10))), 8 * ok + 6 - wm.1 33 14 < (n_141 : Int) → zM mM_readsHotel (zZm 3 (zrI fun a w' => zFr5 w w' ∧ ((a = 1 ∧ zTx c n = (true, n, w'.1 33 13, w'.1 33 14) ∧ zI2 w' b c n ∧ 2 ≤ w'.1 33 14) ∨ (a = 0 ∧ zFl c n (w'.1 33 10))))) 141 [(3, zI ok), (0, zR 33), (1, zI b), (2, zI n)] [] wm := by
                        intro n_141
                        induction n_141 with
                        | zero => intro ok wm hfm hj6 hJ hm_141; exfalso; omega
                        | succ n_141 ih_141 =>
                          intro ok wm hfm hj6 hJ hm_141
                          refine r_ok (fun hOm => ?_)
                          refine r_iload_n 3 0 dM_readsHotel_141 rfl rfl ?_
                          refine r_if_eq 171 dM_readsHotel_142 (by decide) ⟨by omega, by omega⟩ (fun c_142 => ?_) (fun c_142 => ?_)
                          · refine r_iload_n 3 0 dM_readsHotel_171 rfl rfl ?_
                            refine r_zret rfl (by omega) dM_readsHotel_172 ⟨_, rfl, ?_⟩
                            exact ⟨hfm, by first | (refine Or.inr ?_; rcases hJ with q | q; (exfalso; omega); exact q) | exact Or.inl ⟨by omega, hI2.fin (by omega) hj6.2 (by omega), hI2, by omega⟩⟩
                          · obtain ⟨_, a1, a2, a3, a4, a5, a6, a7, a8, a9, a10⟩ : ok = 1 ∧ zI2 wm b c n := (by rcases hJ with q | q; exact q; exact absurd q.1 (by omega))
                            have hI2 : zI2 wm b c n := ⟨a1, a2, a3, a4, a5, a6, a7, a8, a9, a10⟩
                            have hp10 := a2.2
                            refine r_aload_n 0 1 dM_readsHotel_145 rfl rfl ?_
                            refine r_getI (k := 14) fX7 rfl rfl (by decide) kw_519 rfl 14 rfl dM_readsHotel_146 rfl (fun y_146 ey_146 ly_146 uy_146 => ?_)
                            refine r_iconst dM_readsHotel_149 ?_
                            refine r_ic_lt 161 dM_readsHotel_150 (by decide) ⟨by omega, by omega⟩ ⟨by omega, by omega⟩ (fun c_150 => ?_) (fun c_150 => ?_)
                            · refine r_aload_n 0 1 dM_readsHotel_161 rfl rfl ?_
                              refine r_iload_n 1 2 dM_readsHotel_162 rfl rfl ?_
                              refine r_iload_n 2 3 dM_readsHotel_163 rfl rfl ?_
                              refine r_cVI (cM_readsGuest wm b n c (wm.1 33 13) (wm.1 33 14) (by omega) (by omega) (by omega) (by omega) a2 rfl (by omega) (by omega) rfl (by omega) (by omega)) qM_readsGuest rfl kw_663 rfl rfl dM_readsHotel_164 (st0 := [zI n, zI b, zR 33]) (st := []) rfl ⟨Nat.le_of_ble_eq_true rfl, Nat.le_of_ble_eq_true rfl⟩ ⟨Nat.le_of_ble_eq_true rfl, Nat.le_of_ble_eq_true rfl⟩ (Nat.le_of_ble_eq_true rfl) (fun a_164 w_164 h_164 ok_164 => ?_)
                              have hj14 : (a_164 = 1 ∧ w_164.1 33 14 = wm.1 33 14 + 1) ∨ (a_164 = 0 ∧ w_164.1 33 14 = wm.1 33 14) := (by rcases h_164 with ⟨q0, q1, q2, q3, q4, q5, q6, q7⟩ | ⟨q0, q1, q2⟩; exact Or.inl ⟨q0, q6⟩; exact Or.inr ⟨q0, q1 _ _ (by omega)⟩)
                              have hj164 : wm.1 33 14 < 6 ∨ a_164 = 0 := (by rcases h_164 with ⟨q0, q1, q2, q3, q4, q5, q6, q7⟩ | ⟨q0, q1, q2⟩; exact Or.inl q1.1; exact Or.inr q0)
                              refine r_istore_n (ls' := [(3, zI a_164), (0, zR 33), (1, zI b), (2, zI n)]) 3 dM_readsHotel_167 rfl (by decide) rfl ?_
                              refine r_goto 141 dM_readsHotel_168 (by decide) ?_
                              exact ih_141 a_164 w_164 (hfm.trans (by rcases h_164 with ⟨q0, q1, q2, q3, q4, q5, q6, q7⟩ | ⟨q0, q1, q2⟩; exact (fun i j z1 z2 => by rw [q7 i j (by omega), if_neg (by omega), if_neg (by omega), if_neg (by omega)]); exact (fun i j z1 z2 => q1 i j (by omega)))) (by omega) (by rcases h_164 with ⟨q0, q1, q2, q3, q4, q5, q6, q7⟩ | ⟨q0, q1, q2⟩; exact Or.inl ⟨q0, hI2.step rfl rfl hj6.1 q1 q2 q3 q4 q5 q6 q7⟩; exact Or.inr ⟨q0, zFl_g a1 a5 hj6.2 a6 (by omega) q2⟩) (by omega)
                            · refine r_aload_n 0 1 dM_readsHotel_153 rfl rfl ?_
                              refine r_getI (k := 10) fX7 rfl rfl (by decide) kw_515 rfl 10 rfl dM_readsHotel_154 rfl (fun y_154 ey_154 ly_154 uy_154 => ?_)
                              refine r_iload_n 2 3 dM_readsHotel_157 rfl rfl ?_
                              refine r_ic_ge 171 dM_readsHotel_158 (by decide) ⟨by omega, by omega⟩ ⟨by omega, by omega⟩ (fun c_158 => ?_) (fun c_158 => ?_)
                              · refine r_iload_n 3 0 dM_readsHotel_171 rfl rfl ?_
                                refine r_zret rfl (by omega) dM_readsHotel_172 ⟨_, rfl, ?_⟩
                                exact ⟨hfm, by first | (refine Or.inr ?_; rcases hJ with q | q; (exfalso; omega); exact q) | exact Or.inl ⟨by omega, hI2.fin (by omega) hj6.2 (by omega), hI2, by omega⟩⟩
                              · refine r_aload_n 0 1 dM_readsHotel_161 rfl rfl ?_
                                refine r_iload_n 1 2 dM_readsHotel_162 rfl rfl ?_
                                refine r_iload_n 2 3 dM_readsHotel_163 rfl rfl ?_
                                refine r_cVI (cM_readsGuest wm b n c (wm.1 33 13) (wm.1 33 14) (by omega) (by omega) (by omega) (by omega) a2 rfl (by omega) (by omega) rfl (by omega) (by omega)) qM_readsGuest rfl kw_663 rfl rfl dM_readsHotel_164 (st0 := [zI n, zI b, zR 33]) (st := []) rfl ⟨Nat.le_of_ble_eq_true rfl, Nat.le_of_ble_eq_true rfl⟩ ⟨Nat.le_of_ble_eq_true rfl, Nat.le_of_ble_eq_true rfl⟩ (Nat.le_of_ble_eq_true rfl) (fun a_164 w_164 h_164 ok_164 => ?_)
                                have hj14 : (a_164 = 1 ∧ w_164.1 33 14 = wm.1 33 14 + 1) ∨ (a_164 = 0 ∧ w_164.1 33 14 = wm.1 33 14) := (by rcases h_164 with ⟨q0, q1, q2, q3, q4, q5, q6, q7⟩ | ⟨q0, q1, q2⟩; exact Or.inl ⟨q0, q6⟩; exact Or.inr ⟨q0, q1 _ _ (by omega)⟩)
                                have hj164 : wm.1 33 14 < 6 ∨ a_164 = 0 := (by rcases h_164 with ⟨q0, q1, q2, q3, q4, q5, q6, q7⟩ | ⟨q0, q1, q2⟩; exact Or.inl q1.1; exact Or.inr q0)
                                refine r_istore_n (ls' := [(3, zI a_164), (0, zR 33), (1, zI b), (2, zI n)]) 3 dM_readsHotel_167 rfl (by decide) rfl ?_
                                refine r_goto 141 dM_readsHotel_168 (by decide) ?_
                                exact ih_141 a_164 w_164 (hfm.trans (by rcases h_164 with ⟨q0, q1, q2, q3, q4, q5, q6, q7⟩ | ⟨q0, q1, q2⟩; exact (fun i j z1 z2 => by rw [q7 i j (by omega), if_neg (by omega), if_neg (by omega), if_neg (by omega)]); exact (fun i j z1 z2 => q1 i j (by omega)))) (by omega) (by rcases h_164 with ⟨q0, q1, q2, q3, q4, q5, q6, q7⟩ | ⟨q0, q1, q2⟩; exact Or.inl ⟨q0, hI2.step rfl rfl hj6.1 q1 q2 q3 q4 q5 q6 q7⟩; exact Or.inr ⟨q0, zFl_g a1 a5 hj6.2 a6 (by omega) q2⟩) (by omega)
                      exact L_141 15 ok wl hfr (‹zOk wl› 33 14) (by first | (refine Or.inr ?_; rcases hI with q | q; (exfalso; omega); exact q) | exact Or.inl ⟨by omega, hI1.fin (by omega) (by omega) (by omega)⟩) (by have := ‹zOk wl› 33 14; change 0 ≤ wl.1 33 14 ∧ wl.1 33 14 ≤ 6 at this; omega)
                    · refine r_aload_n 0 1 dM_readsHotel_131 rfl rfl ?_
                      refine r_iload_n 1 2 dM_readsHotel_132 rfl rfl ?_
                      refine r_iload_n 2 3 dM_readsHotel_133 rfl rfl ?_
                      refine r_cVI (cM_readsDoing wl b n c (wl.1 33 13) (by omega) (by omega) (by omega) (by omega) a2 rfl (by omega) (by omega)) qM_readsDoing rfl kw_659 rfl rfl dM_readsHotel_134 (st0 := [zI n, zI b, zR 33]) (st := []) rfl ⟨Nat.le_of_ble_eq_true rfl, Nat.le_of_ble_eq_true rfl⟩ ⟨Nat.le_of_ble_eq_true rfl, Nat.le_of_ble_eq_true rfl⟩ (Nat.le_of_ble_eq_true rfl) (fun a_134 w_134 h_134 ok_134 => ?_)
                      have hk13 : (a_134 = 1 ∧ w_134.1 33 13 = wl.1 33 13 + 1) ∨ (a_134 = 0 ∧ w_134.1 33 13 = wl.1 33 13) := (by rcases h_134 with ⟨q0, q1, q2, q3, q4, q5, q6⟩ | ⟨q0, q1, q2⟩; exact Or.inl ⟨q0, q5⟩; exact Or.inr ⟨q0, q1 _ _ (by omega)⟩)
                      have hk134 : wl.1 33 13 < 4 ∨ a_134 = 0 := (by rcases h_134 with ⟨q0, q1, q2, q3, q4, q5, q6⟩ | ⟨q0, q1, q2⟩; exact Or.inl q1.1; exact Or.inr q0)
                      refine r_istore_n (ls' := [(3, zI a_134), (0, zR 33), (1, zI b), (2, zI n)]) 3 dM_readsHotel_137 rfl (by decide) rfl ?_
                      refine r_goto 109 dM_readsHotel_138 (by decide) ?_
                      exact ih_109 a_134 w_134 (hfr.trans (by rcases h_134 with ⟨q0, q1, q2, q3, q4, q5, q6⟩ | ⟨q0, q1, q2⟩; exact (fun i j z1 z2 => by rw [q6 i j (by omega), if_neg (by omega), if_neg (by omega)]); exact (fun i j z1 z2 => q1 i j (by omega)))) (by omega) (by rcases h_134 with ⟨q0, q1, q2, q3, q4, q5, q6⟩ | ⟨q0, q1, q2⟩; exact Or.inl ⟨q0, hI1.step rfl hk4.1 q1 q2 q3 q4 q5 q6⟩; exact Or.inr ⟨q0, zFl_d a1 hk4.1 hk4.2 a4 (by omega) q2⟩) (by omega)
            exact L_109 11 0 w_93 (by first | exact (fun i j q1 q2 => by rw [ew_93, zput_e, if_neg (by omega), ew_68, zput_e, if_neg (by omega), ew_47, zput_e, if_neg (by omega), ew_12, zput_e, if_neg (by omega), ew_7, zput_e, if_neg (by omega), ew_2, zput_e, if_neg (by omega)]) | exact (fun i j q1 q2 => by rw [ew_93, zput_e, if_neg (by omega), ew_68, zput_e, if_neg (by omega), h_60.1 _ _ (by omega), ew_47, zput_e, if_neg (by omega), ew_12, zput_e, if_neg (by omega), ew_7, zput_e, if_neg (by omega), ew_2, zput_e, if_neg (by omega)]) | exact (fun i j q1 q2 => by rw [ew_93, zput_e, if_neg (by omega), h_85.1 _ _ (by omega), ew_68, zput_e, if_neg (by omega), h_60.1 _ _ (by omega), ew_47, zput_e, if_neg (by omega), ew_12, zput_e, if_neg (by omega), ew_7, zput_e, if_neg (by omega), ew_2, zput_e, if_neg (by omega)]) | (exfalso; omega)) (by have e13 : w_93.1 33 13 = 0 := (by first | rw [ew_93, zput_k _ _ (by decide), ew_68, zput_k _ _ (by decide), ew_47, zput_k _ _ (by decide), ew_12, zput_k _ _ (by decide), ew_7, zput_s] | rw [ew_93, zput_k _ _ (by decide), ew_68, zput_k _ _ (by decide), h_60.1 _ _ (by omega), ew_47, zput_k _ _ (by decide), ew_12, zput_k _ _ (by decide), ew_7, zput_s] | rw [ew_93, zput_k _ _ (by decide), h_85.1 _ _ (by omega), ew_68, zput_k _ _ (by decide), h_60.1 _ _ (by omega), ew_47, zput_k _ _ (by decide), ew_12, zput_k _ _ (by decide), ew_7, zput_s] | (exfalso; omega)); rw [e13]; decide) (by first | (exfalso; omega) | exact Or.inr ⟨rfl, (by have e10 : w_93.1 33 10 = 0 := (by rw [ew_93, zput_k _ _ (by decide), ew_68, zput_k _ _ (by decide), ew_47, zput_s]; omega); rw [e10]; exact zFl_0 (by omega))⟩ | exact Or.inr ⟨rfl, (by have e10 : w_93.1 33 10 = 1 := (by rw [ew_93, zput_k _ _ (by decide), ew_68, zput_k _ _ (by decide)]; omega); rw [e10]; exact zFl_1 (by omega) (by omega))⟩ | exact Or.inr ⟨rfl, (by have e10 : w_93.1 33 10 = 2 := (by rw [ew_93, zput_k _ _ (by decide)]; omega); rw [e10]; exact zFl_2 (by omega) (by omega) (by omega))⟩ | exact Or.inl ⟨rfl, (by have e13 : w_93.1 33 13 = 0 := (by rw [ew_93, zput_k _ _ (by decide), h_85.1 _ _ (by omega), ew_68, zput_k _ _ (by decide), h_60.1 _ _ (by omega), ew_47, zput_k _ _ (by decide), ew_12, zput_k _ _ (by decide), ew_7, zput_s]); have e10 : w_93.1 33 10 = 3 := (by rw [ew_93, zput_k _ _ (by decide)]; omega); have e14 : w_93.1 33 14 = 0 := (by rw [ew_93, zput_k _ _ (by decide), h_85.1 _ _ (by omega), ew_68, zput_k _ _ (by decide), h_60.1 _ _ (by omega), ew_47, zput_k _ _ (by decide), ew_12, zput_s]); have e11 : w_93.1 33 11 = a_60 := (by rw [ew_93, zput_k _ _ (by decide), h_85.1 _ _ (by omega), ew_68, zput_s]); have e12 : w_93.1 33 12 = a_85 := (by rw [ew_93, zput_s]); unfold zI1; rw [e13]; exact ⟨⟨by omega, by omega, by omega⟩, zRS.fr hT3 (fun q => by rw [ew_93, zput_i _ _ _ _ (by decide)]) (by omega), by omega, rfl, e14, by omega, by omega, fun d d0 d1 => absurd d1 (by omega)⟩)⟩) (by have e13 : w_93.1 33 13 = 0 := (by first | rw [ew_93, zput_k _ _ (by decide), ew_68, zput_k _ _ (by decide), ew_47, zput_k _ _ (by decide), ew_12, zput_k _ _ (by decide), ew_7, zput_s] | rw [ew_93, zput_k _ _ (by decide), ew_68, zput_k _ _ (by decide), h_60.1 _ _ (by omega), ew_47, zput_k _ _ (by decide), ew_12, zput_k _ _ (by decide), ew_7, zput_s] | rw [ew_93, zput_k _ _ (by decide), h_85.1 _ _ (by omega), ew_68, zput_k _ _ (by decide), h_60.1 _ _ (by omega), ew_47, zput_k _ _ (by decide), ew_12, zput_k _ _ (by decide), ew_7, zput_s] | (exfalso; omega)); rw [e13]; decide)
          · refine r_iconst dM_readsHotel_103 ?_
            refine r_goto 108 dM_readsHotel_104 (by decide) ?_
            refine r_istore_n (ls' := [(3, zI 1), (0, zR 33), (1, zI b), (2, zI n)]) 3 dM_readsHotel_108 rfl (by decide) rfl ?_
            have L_109 : ∀ (n_109 : Nat) (ok : Int) (wl : zW) (hfr : zFr5 w wl) (hk4 : 0 ≤ wl.1 33 13 ∧ wl.1 33 13 ≤ 4) (hI : (ok = 1 ∧ zI1 wl b c n) ∨ (ok = 0 ∧ zFl c n (wl.1 33 10))), 6 * ok + 4 - wl.1 33 13 < (n_109 : Int) → zM mM_readsHotel (zZm 3 (zrI fun a w' => zFr5 w w' ∧ ((a = 1 ∧ zTx c n = (true, n, w'.1 33 13, w'.1 33 14) ∧ zI2 w' b c n ∧ 2 ≤ w'.1 33 14) ∨ (a = 0 ∧ zFl c n (w'.1 33 10))))) 109 [(3, zI ok), (0, zR 33), (1, zI b), (2, zI n)] [] wl := by
              intro n_109
              induction n_109 with
              | zero => intro ok wl hfr hk4 hI hm_109; exfalso; omega
              | succ n_109 ih_109 =>
                intro ok wl hfr hk4 hI hm_109
                refine r_ok (fun hOl => ?_)
                refine r_iload_n 3 0 dM_readsHotel_109 rfl rfl ?_
                refine r_if_eq 141 dM_readsHotel_110 (by decide) ⟨by omega, by omega⟩ (fun c_110 => ?_) (fun c_110 => ?_)
                · have L_141 : ∀ (n_141 : Nat) (ok : Int) (wm : zW) (hfm : zFr5 w wm) (hj6 : 0 ≤ wm.1 33 14 ∧ wm.1 33 14 ≤ 6) (hJ : (ok = 1 ∧ zI2 wm b c n) ∨ (ok = 0 ∧ zFl c n (wm.1 33 10))), 8 * ok + 6 - wm.1 33 14 < (n_141 : Int) → zM mM_readsHotel (zZm 3 (zrI fun a w' => zFr5 w w' ∧ ((a = 1 ∧ zTx c n = (true, n, w'.1 33 13, w'.1 33 14) ∧ zI2 w' b c n ∧ 2 ≤ w'.1 33 14) ∨ (a = 0 ∧ zFl c n (w'.1 33 10))))) 141 [(3, zI ok), (0, zR 33), (1, zI b), (2, zI n)] [] wm := by
                    intro n_141
                    induction n_141 with
                    | zero => intro ok wm hfm hj6 hJ hm_141; exfalso; omega
                    | succ n_141 ih_141 =>
                      intro ok wm hfm hj6 hJ hm_141
                      refine r_ok (fun hOm => ?_)
                      refine r_iload_n 3 0 dM_readsHotel_141 rfl rfl ?_
                      refine r_if_eq 171 dM_readsHotel_142 (by decide) ⟨by omega, by omega⟩ (fun c_142 => ?_) (fun c_142 => ?_)
                      · refine r_iload_n 3 0 dM_readsHotel_171 rfl rfl ?_
                        refine r_zret rfl (by omega) dM_readsHotel_172 ⟨_, rfl, ?_⟩
                        exact ⟨hfm, by first | (refine Or.inr ?_; rcases hJ with q | q; (exfalso; omega); exact q) | exact Or.inl ⟨by omega, hI2.fin (by omega) hj6.2 (by omega), hI2, by omega⟩⟩
                      · obtain ⟨_, a1, a2, a3, a4, a5, a6, a7, a8, a9, a10⟩ : ok = 1 ∧ zI2 wm b c n := (by rcases hJ with q | q; exact q; exact absurd q.1 (by omega))
                        have hI2 : zI2 wm b c n := ⟨a1, a2, a3, a4, a5, a6, a7, a8, a9, a10⟩
                        have hp10 := a2.2
                        refine r_aload_n 0 1 dM_readsHotel_145 rfl rfl ?_
                        refine r_getI (k := 14) fX7 rfl rfl (by decide) kw_519 rfl 14 rfl dM_readsHotel_146 rfl (fun y_146 ey_146 ly_146 uy_146 => ?_)
                        refine r_iconst dM_readsHotel_149 ?_
                        refine r_ic_lt 161 dM_readsHotel_150 (by decide) ⟨by omega, by omega⟩ ⟨by omega, by omega⟩ (fun c_150 => ?_) (fun c_150 => ?_)
                        · refine r_aload_n 0 1 dM_readsHotel_161 rfl rfl ?_
                          refine r_iload_n 1 2 dM_readsHotel_162 rfl rfl ?_
                          refine r_iload_n 2 3 dM_readsHotel_163 rfl rfl ?_
                          refine r_cVI (cM_readsGuest wm b n c (wm.1 33 13) (wm.1 33 14) (by omega) (by omega) (by omega) (by omega) a2 rfl (by omega) (by omega) rfl (by omega) (by omega)) qM_readsGuest rfl kw_663 rfl rfl dM_readsHotel_164 (st0 := [zI n, zI b, zR 33]) (st := []) rfl ⟨Nat.le_of_ble_eq_true rfl, Nat.le_of_ble_eq_true rfl⟩ ⟨Nat.le_of_ble_eq_true rfl, Nat.le_of_ble_eq_true rfl⟩ (Nat.le_of_ble_eq_true rfl) (fun a_164 w_164 h_164 ok_164 => ?_)
                          have hj14 : (a_164 = 1 ∧ w_164.1 33 14 = wm.1 33 14 + 1) ∨ (a_164 = 0 ∧ w_164.1 33 14 = wm.1 33 14) := (by rcases h_164 with ⟨q0, q1, q2, q3, q4, q5, q6, q7⟩ | ⟨q0, q1, q2⟩; exact Or.inl ⟨q0, q6⟩; exact Or.inr ⟨q0, q1 _ _ (by omega)⟩)
                          have hj164 : wm.1 33 14 < 6 ∨ a_164 = 0 := (by rcases h_164 with ⟨q0, q1, q2, q3, q4, q5, q6, q7⟩ | ⟨q0, q1, q2⟩; exact Or.inl q1.1; exact Or.inr q0)
                          refine r_istore_n (ls' := [(3, zI a_164), (0, zR 33), (1, zI b), (2, zI n)]) 3 dM_readsHotel_167 rfl (by decide) rfl ?_
                          refine r_goto 141 dM_readsHotel_168 (by decide) ?_
                          exact ih_141 a_164 w_164 (hfm.trans (by rcases h_164 with ⟨q0, q1, q2, q3, q4, q5, q6, q7⟩ | ⟨q0, q1, q2⟩; exact (fun i j z1 z2 => by rw [q7 i j (by omega), if_neg (by omega), if_neg (by omega), if_neg (by omega)]); exact (fun i j z1 z2 => q1 i j (by omega)))) (by omega) (by rcases h_164 with ⟨q0, q1, q2, q3, q4, q5, q6, q7⟩ | ⟨q0, q1, q2⟩; exact Or.inl ⟨q0, hI2.step rfl rfl hj6.1 q1 q2 q3 q4 q5 q6 q7⟩; exact Or.inr ⟨q0, zFl_g a1 a5 hj6.2 a6 (by omega) q2⟩) (by omega)
                        · refine r_aload_n 0 1 dM_readsHotel_153 rfl rfl ?_
                          refine r_getI (k := 10) fX7 rfl rfl (by decide) kw_515 rfl 10 rfl dM_readsHotel_154 rfl (fun y_154 ey_154 ly_154 uy_154 => ?_)
                          refine r_iload_n 2 3 dM_readsHotel_157 rfl rfl ?_
                          refine r_ic_ge 171 dM_readsHotel_158 (by decide) ⟨by omega, by omega⟩ ⟨by omega, by omega⟩ (fun c_158 => ?_) (fun c_158 => ?_)
                          · refine r_iload_n 3 0 dM_readsHotel_171 rfl rfl ?_
                            refine r_zret rfl (by omega) dM_readsHotel_172 ⟨_, rfl, ?_⟩
                            exact ⟨hfm, by first | (refine Or.inr ?_; rcases hJ with q | q; (exfalso; omega); exact q) | exact Or.inl ⟨by omega, hI2.fin (by omega) hj6.2 (by omega), hI2, by omega⟩⟩
                          · refine r_aload_n 0 1 dM_readsHotel_161 rfl rfl ?_
                            refine r_iload_n 1 2 dM_readsHotel_162 rfl rfl ?_
                            refine r_iload_n 2 3 dM_readsHotel_163 rfl rfl ?_
                            refine r_cVI (cM_readsGuest wm b n c (wm.1 33 13) (wm.1 33 14) (by omega) (by omega) (by omega) (by omega) a2 rfl (by omega) (by omega) rfl (by omega) (by omega)) qM_readsGuest rfl kw_663 rfl rfl dM_readsHotel_164 (st0 := [zI n, zI b, zR 33]) (st := []) rfl ⟨Nat.le_of_ble_eq_true rfl, Nat.le_of_ble_eq_true rfl⟩ ⟨Nat.le_of_ble_eq_true rfl, Nat.le_of_ble_eq_true rfl⟩ (Nat.le_of_ble_eq_true rfl) (fun a_164 w_164 h_164 ok_164 => ?_)
                            have hj14 : (a_164 = 1 ∧ w_164.1 33 14 = wm.1 33 14 + 1) ∨ (a_164 = 0 ∧ w_164.1 33 14 = wm.1 33 14) := (by rcases h_164 with ⟨q0, q1, q2, q3, q4, q5, q6, q7⟩ | ⟨q0, q1, q2⟩; exact Or.inl ⟨q0, q6⟩; exact Or.inr ⟨q0, q1 _ _ (by omega)⟩)
                            have hj164 : wm.1 33 14 < 6 ∨ a_164 = 0 := (by rcases h_164 with ⟨q0, q1, q2, q3, q4, q5, q6, q7⟩ | ⟨q0, q1, q2⟩; exact Or.inl q1.1; exact Or.inr q0)
                            refine r_istore_n (ls' := [(3, zI a_164), (0, zR 33), (1, zI b), (2, zI n)]) 3 dM_readsHotel_167 rfl (by decide) rfl ?_
                            refine r_goto 141 dM_readsHotel_168 (by decide) ?_
                            exact ih_141 a_164 w_164 (hfm.trans (by rcases h_164 with ⟨q0, q1, q2, q3, q4, q5, q6, q7⟩ | ⟨q0, q1, q2⟩; exact (fun i j z1 z2 => by rw [q7 i j (by omega), if_neg (by omega), if_neg (by omega), if_neg (by omega)]); exact (fun i j z1 z2 => q1 i j (by omega)))) (by omega) (by rcases h_164 with ⟨q0, q1, q2, q3, q4, q5, q6, q7⟩ | ⟨q0, q1, q2⟩; exact Or.inl ⟨q0, hI2.step rfl rfl hj6.1 q1 q2 q3 q4 q5 q6 q7⟩; exact Or.inr ⟨q0, zFl_g a1 a5 hj6.2 a6 (by omega) q2⟩) (by omega)
                  exact L_141 15 ok wl hfr (‹zOk wl› 33 14) (by first | (refine Or.inr ?_; rcases hI with q | q; (exfalso; omega); exact q) | exact Or.inl ⟨by omega, hI1.fin (by omega) (by omega) (by omega)⟩) (by have := ‹zOk wl› 33 14; change 0 ≤ wl.1 33 14 ∧ wl.1 33 14 ≤ 6 at this; omega)
                · obtain ⟨_, a1, a2, a3, a4, a5, a6, a7, a8⟩ : ok = 1 ∧ zI1 wl b c n := (by rcases hI with q | q; exact q; exact absurd q.1 (by omega))
                  have hI1 : zI1 wl b c n := ⟨a1, a2, a3, a4, a5, a6, a7, a8⟩
                  refine r_aload_n 0 1 dM_readsHotel_113 rfl rfl ?_
                  refine r_getI (k := 13) fX7 rfl rfl (by decide) kw_518 rfl 13 rfl dM_readsHotel_114 rfl (fun y_114 ey_114 ly_114 uy_114 => ?_)
                  refine r_if_eq 131 dM_readsHotel_117 (by decide) ⟨by omega, by omega⟩ (fun c_117 => ?_) (fun c_117 => ?_)
                  · refine r_aload_n 0 1 dM_readsHotel_131 rfl rfl ?_
                    refine r_iload_n 1 2 dM_readsHotel_132 rfl rfl ?_
                    refine r_iload_n 2 3 dM_readsHotel_133 rfl rfl ?_
                    refine r_cVI (cM_readsDoing wl b n c (wl.1 33 13) (by omega) (by omega) (by omega) (by omega) a2 rfl (by omega) (by omega)) qM_readsDoing rfl kw_659 rfl rfl dM_readsHotel_134 (st0 := [zI n, zI b, zR 33]) (st := []) rfl ⟨Nat.le_of_ble_eq_true rfl, Nat.le_of_ble_eq_true rfl⟩ ⟨Nat.le_of_ble_eq_true rfl, Nat.le_of_ble_eq_true rfl⟩ (Nat.le_of_ble_eq_true rfl) (fun a_134 w_134 h_134 ok_134 => ?_)
                    have hk13 : (a_134 = 1 ∧ w_134.1 33 13 = wl.1 33 13 + 1) ∨ (a_134 = 0 ∧ w_134.1 33 13 = wl.1 33 13) := (by rcases h_134 with ⟨q0, q1, q2, q3, q4, q5, q6⟩ | ⟨q0, q1, q2⟩; exact Or.inl ⟨q0, q5⟩; exact Or.inr ⟨q0, q1 _ _ (by omega)⟩)
                    have hk134 : wl.1 33 13 < 4 ∨ a_134 = 0 := (by rcases h_134 with ⟨q0, q1, q2, q3, q4, q5, q6⟩ | ⟨q0, q1, q2⟩; exact Or.inl q1.1; exact Or.inr q0)
                    refine r_istore_n (ls' := [(3, zI a_134), (0, zR 33), (1, zI b), (2, zI n)]) 3 dM_readsHotel_137 rfl (by decide) rfl ?_
                    refine r_goto 109 dM_readsHotel_138 (by decide) ?_
                    exact ih_109 a_134 w_134 (hfr.trans (by rcases h_134 with ⟨q0, q1, q2, q3, q4, q5, q6⟩ | ⟨q0, q1, q2⟩; exact (fun i j z1 z2 => by rw [q6 i j (by omega), if_neg (by omega), if_neg (by omega)]); exact (fun i j z1 z2 => q1 i j (by omega)))) (by omega) (by rcases h_134 with ⟨q0, q1, q2, q3, q4, q5, q6⟩ | ⟨q0, q1, q2⟩; exact Or.inl ⟨q0, hI1.step rfl hk4.1 q1 q2 q3 q4 q5 q6⟩; exact Or.inr ⟨q0, zFl_d a1 hk4.1 hk4.2 a4 (by omega) q2⟩) (by omega)
                  · refine r_aload_n 0 1 dM_readsHotel_120 rfl rfl ?_
                    refine r_iload_n 1 2 dM_readsHotel_121 rfl rfl ?_
                    refine r_iload_n 2 3 dM_readsHotel_122 rfl rfl ?_
                    refine r_cVI (cM_codeAt wl b n c (3 + 3 * wl.1 33 13) (by omega) (by omega) (by omega) (by omega) a2) qM_codeAt rfl kw_651 rfl rfl dM_readsHotel_123 (st0 := [zI n, zI b, zR 33]) (st := []) rfl ⟨Nat.le_of_ble_eq_true rfl, Nat.le_of_ble_eq_true rfl⟩ ⟨Nat.le_of_ble_eq_true rfl, Nat.le_of_ble_eq_true rfl⟩ (Nat.le_of_ble_eq_true rfl) (fun a_123 w_123 h_123 ok_123 => ?_)
                    obtain ⟨rfl, h_123⟩ := h_123
                    refine r_bipush dM_readsHotel_126 (by decide) ?_
                    refine r_ic_ne 141 dM_readsHotel_128 (by decide) ⟨by omega, by omega⟩ ⟨by omega, by omega⟩ (fun c_128 => ?_) (fun c_128 => ?_)
                    · have L_141 : ∀ (n_141 : Nat) (ok : Int) (wm : zW) (hfm : zFr5 w wm) (hj6 : 0 ≤ wm.1 33 14 ∧ wm.1 33 14 ≤ 6) (hJ : (ok = 1 ∧ zI2 wm b c n) ∨ (ok = 0 ∧ zFl c n (wm.1 33 10))), 8 * ok + 6 - wm.1 33 14 < (n_141 : Int) → zM mM_readsHotel (zZm 3 (zrI fun a w' => zFr5 w w' ∧ ((a = 1 ∧ zTx c n = (true, n, w'.1 33 13, w'.1 33 14) ∧ zI2 w' b c n ∧ 2 ≤ w'.1 33 14) ∨ (a = 0 ∧ zFl c n (w'.1 33 10))))) 141 [(3, zI ok), (0, zR 33), (1, zI b), (2, zI n)] [] wm := by
                        intro n_141
                        induction n_141 with
                        | zero => intro ok wm hfm hj6 hJ hm_141; exfalso; omega
                        | succ n_141 ih_141 =>
                          intro ok wm hfm hj6 hJ hm_141
                          refine r_ok (fun hOm => ?_)
                          refine r_iload_n 3 0 dM_readsHotel_141 rfl rfl ?_
                          refine r_if_eq 171 dM_readsHotel_142 (by decide) ⟨by omega, by omega⟩ (fun c_142 => ?_) (fun c_142 => ?_)
                          · refine r_iload_n 3 0 dM_readsHotel_171 rfl rfl ?_
                            refine r_zret rfl (by omega) dM_readsHotel_172 ⟨_, rfl, ?_⟩
                            exact ⟨hfm, by first | (refine Or.inr ?_; rcases hJ with q | q; (exfalso; omega); exact q) | exact Or.inl ⟨by omega, hI2.fin (by omega) hj6.2 (by omega), hI2, by omega⟩⟩
                          · obtain ⟨_, a1, a2, a3, a4, a5, a6, a7, a8, a9, a10⟩ : ok = 1 ∧ zI2 wm b c n := (by rcases hJ with q | q; exact q; exact absurd q.1 (by omega))
                            have hI2 : zI2 wm b c n := ⟨a1, a2, a3, a4, a5, a6, a7, a8, a9, a10⟩
                            have hp10 := a2.2
                            refine r_aload_n 0 1 dM_readsHotel_145 rfl rfl ?_
                            refine r_getI (k := 14) fX7 rfl rfl (by decide) kw_519 rfl 14 rfl dM_readsHotel_146 rfl (fun y_146 ey_146 ly_146 uy_146 => ?_)
                            refine r_iconst dM_readsHotel_149 ?_
                            refine r_ic_lt 161 dM_readsHotel_150 (by decide) ⟨by omega, by omega⟩ ⟨by omega, by omega⟩ (fun c_150 => ?_) (fun c_150 => ?_)
                            · refine r_aload_n 0 1 dM_readsHotel_161 rfl rfl ?_
                              refine r_iload_n 1 2 dM_readsHotel_162 rfl rfl ?_
                              refine r_iload_n 2 3 dM_readsHotel_163 rfl rfl ?_
                              refine r_cVI (cM_readsGuest wm b n c (wm.1 33 13) (wm.1 33 14) (by omega) (by omega) (by omega) (by omega) a2 rfl (by omega) (by omega) rfl (by omega) (by omega)) qM_readsGuest rfl kw_663 rfl rfl dM_readsHotel_164 (st0 := [zI n, zI b, zR 33]) (st := []) rfl ⟨Nat.le_of_ble_eq_true rfl, Nat.le_of_ble_eq_true rfl⟩ ⟨Nat.le_of_ble_eq_true rfl, Nat.le_of_ble_eq_true rfl⟩ (Nat.le_of_ble_eq_true rfl) (fun a_164 w_164 h_164 ok_164 => ?_)
                              have hj14 : (a_164 = 1 ∧ w_164.1 33 14 = wm.1 33 14 + 1) ∨ (a_164 = 0 ∧ w_164.1 33 14 = wm.1 33 14) := (by rcases h_164 with ⟨q0, q1, q2, q3, q4, q5, q6, q7⟩ | ⟨q0, q1, q2⟩; exact Or.inl ⟨q0, q6⟩; exact Or.inr ⟨q0, q1 _ _ (by omega)⟩)
                              have hj164 : wm.1 33 14 < 6 ∨ a_164 = 0 := (by rcases h_164 with ⟨q0, q1, q2, q3, q4, q5, q6, q7⟩ | ⟨q0, q1, q2⟩; exact Or.inl q1.1; exact Or.inr q0)
                              refine r_istore_n (ls' := [(3, zI a_164), (0, zR 33), (1, zI b), (2, zI n)]) 3 dM_readsHotel_167 rfl (by decide) rfl ?_
                              refine r_goto 141 dM_readsHotel_168 (by decide) ?_
                              exact ih_141 a_164 w_164 (hfm.trans (by rcases h_164 with ⟨q0, q1, q2, q3, q4, q5, q6, q7⟩ | ⟨q0, q1, q2⟩; exact (fun i j z1 z2 => by rw [q7 i j (by omega), if_neg (by omega), if_neg (by omega), if_neg (by omega)]); exact (fun i j z1 z2 => q1 i j (by omega)))) (by omega) (by rcases h_164 with ⟨q0, q1, q2, q3, q4, q5, q6, q7⟩ | ⟨q0, q1, q2⟩; exact Or.inl ⟨q0, hI2.step rfl rfl hj6.1 q1 q2 q3 q4 q5 q6 q7⟩; exact Or.inr ⟨q0, zFl_g a1 a5 hj6.2 a6 (by omega) q2⟩) (by omega)
                            · refine r_aload_n 0 1 dM_readsHotel_153 rfl rfl ?_
                              refine r_getI (k := 10) fX7 rfl rfl (by decide) kw_515 rfl 10 rfl dM_readsHotel_154 rfl (fun y_154 ey_154 ly_154 uy_154 => ?_)
                              refine r_iload_n 2 3 dM_readsHotel_157 rfl rfl ?_
                              refine r_ic_ge 171 dM_readsHotel_158 (by decide) ⟨by omega, by omega⟩ ⟨by omega, by omega⟩ (fun c_158 => ?_) (fun c_158 => ?_)
                              · refine r_iload_n 3 0 dM_readsHotel_171 rfl rfl ?_
                                refine r_zret rfl (by omega) dM_readsHotel_172 ⟨_, rfl, ?_⟩
                                exact ⟨hfm, by first | (refine Or.inr ?_; rcases hJ with q | q; (exfalso; omega); exact q) | exact Or.inl ⟨by omega, hI2.fin (by omega) hj6.2 (by omega), hI2, by omega⟩⟩
                              · refine r_aload_n 0 1 dM_readsHotel_161 rfl rfl ?_
                                refine r_iload_n 1 2 dM_readsHotel_162 rfl rfl ?_
                                refine r_iload_n 2 3 dM_readsHotel_163 rfl rfl ?_
                                refine r_cVI (cM_readsGuest wm b n c (wm.1 33 13) (wm.1 33 14) (by omega) (by omega) (by omega) (by omega) a2 rfl (by omega) (by omega) rfl (by omega) (by omega)) qM_readsGuest rfl kw_663 rfl rfl dM_readsHotel_164 (st0 := [zI n, zI b, zR 33]) (st := []) rfl ⟨Nat.le_of_ble_eq_true rfl, Nat.le_of_ble_eq_true rfl⟩ ⟨Nat.le_of_ble_eq_true rfl, Nat.le_of_ble_eq_true rfl⟩ (Nat.le_of_ble_eq_true rfl) (fun a_164 w_164 h_164 ok_164 => ?_)
                                have hj14 : (a_164 = 1 ∧ w_164.1 33 14 = wm.1 33 14 + 1) ∨ (a_164 = 0 ∧ w_164.1 33 14 = wm.1 33 14) := (by rcases h_164 with ⟨q0, q1, q2, q3, q4, q5, q6, q7⟩ | ⟨q0, q1, q2⟩; exact Or.inl ⟨q0, q6⟩; exact Or.inr ⟨q0, q1 _ _ (by omega)⟩)
                                have hj164 : wm.1 33 14 < 6 ∨ a_164 = 0 := (by rcases h_164 with ⟨q0, q1, q2, q3, q4, q5, q6, q7⟩ | ⟨q0, q1, q2⟩; exact Or.inl q1.1; exact Or.inr q0)
                                refine r_istore_n (ls' := [(3, zI a_164), (0, zR 33), (1, zI b), (2, zI n)]) 3 dM_readsHotel_167 rfl (by decide) rfl ?_
                                refine r_goto 141 dM_readsHotel_168 (by decide) ?_
                                exact ih_141 a_164 w_164 (hfm.trans (by rcases h_164 with ⟨q0, q1, q2, q3, q4, q5, q6, q7⟩ | ⟨q0, q1, q2⟩; exact (fun i j z1 z2 => by rw [q7 i j (by omega), if_neg (by omega), if_neg (by omega), if_neg (by omega)]); exact (fun i j z1 z2 => q1 i j (by omega)))) (by omega) (by rcases h_164 with ⟨q0, q1, q2, q3, q4, q5, q6, q7⟩ | ⟨q0, q1, q2⟩; exact Or.inl ⟨q0, hI2.step rfl rfl hj6.1 q1 q2 q3 q4 q5 q6 q7⟩; exact Or.inr ⟨q0, zFl_g a1 a5 hj6.2 a6 (by omega) q2⟩) (by omega)
                      exact L_141 15 ok wl hfr (‹zOk wl› 33 14) (by first | (refine Or.inr ?_; rcases hI with q | q; (exfalso; omega); exact q) | exact Or.inl ⟨by omega, hI1.fin (by omega) (by omega) (by omega)⟩) (by have := ‹zOk wl› 33 14; change 0 ≤ wl.1 33 14 ∧ wl.1 33 14 ≤ 6 at this; omega)
                    · refine r_aload_n 0 1 dM_readsHotel_131 rfl rfl ?_
                      refine r_iload_n 1 2 dM_readsHotel_132 rfl rfl ?_
                      refine r_iload_n 2 3 dM_readsHotel_133 rfl rfl ?_
                      refine r_cVI (cM_readsDoing wl b n c (wl.1 33 13) (by omega) (by omega) (by omega) (by omega) a2 rfl (by omega) (by omega)) qM_readsDoing rfl kw_659 rfl rfl dM_readsHotel_134 (st0 := [zI n, zI b, zR 33]) (st := []) rfl ⟨Nat.le_of_ble_eq_true rfl, Nat.le_of_ble_eq_true rfl⟩ ⟨Nat.le_of_ble_eq_true rfl, Nat.le_of_ble_eq_true rfl⟩ (Nat.le_of_ble_eq_true rfl) (fun a_134 w_134 h_134 ok_134 => ?_)
                      have hk13 : (a_134 = 1 ∧ w_134.1 33 13 = wl.1 33 13 + 1) ∨ (a_134 = 0 ∧ w_134.1 33 13 = wl.1 33 13) := (by rcases h_134 with ⟨q0, q1, q2, q3, q4, q5, q6⟩ | ⟨q0, q1, q2⟩; exact Or.inl ⟨q0, q5⟩; exact Or.inr ⟨q0, q1 _ _ (by omega)⟩)
                      have hk134 : wl.1 33 13 < 4 ∨ a_134 = 0 := (by rcases h_134 with ⟨q0, q1, q2, q3, q4, q5, q6⟩ | ⟨q0, q1, q2⟩; exact Or.inl q1.1; exact Or.inr q0)
                      refine r_istore_n (ls' := [(3, zI a_134), (0, zR 33), (1, zI b), (2, zI n)]) 3 dM_readsHotel_137 rfl (by decide) rfl ?_
                      refine r_goto 109 dM_readsHotel_138 (by decide) ?_
                      exact ih_109 a_134 w_134 (hfr.trans (by rcases h_134 with ⟨q0, q1, q2, q3, q4, q5, q6⟩ | ⟨q0, q1, q2⟩; exact (fun i j z1 z2 => by rw [q6 i j (by omega), if_neg (by omega), if_neg (by omega)]); exact (fun i j z1 z2 => q1 i j (by omega)))) (by omega) (by rcases h_134 with ⟨q0, q1, q2, q3, q4, q5, q6⟩ | ⟨q0, q1, q2⟩; exact Or.inl ⟨q0, hI1.step rfl hk4.1 q1 q2 q3 q4 q5 q6⟩; exact Or.inr ⟨q0, zFl_d a1 hk4.1 hk4.2 a4 (by omega) q2⟩) (by omega)
            exact L_109 11 1 w_93 (by first | exact (fun i j q1 q2 => by rw [ew_93, zput_e, if_neg (by omega), ew_68, zput_e, if_neg (by omega), ew_47, zput_e, if_neg (by omega), ew_12, zput_e, if_neg (by omega), ew_7, zput_e, if_neg (by omega), ew_2, zput_e, if_neg (by omega)]) | exact (fun i j q1 q2 => by rw [ew_93, zput_e, if_neg (by omega), ew_68, zput_e, if_neg (by omega), h_60.1 _ _ (by omega), ew_47, zput_e, if_neg (by omega), ew_12, zput_e, if_neg (by omega), ew_7, zput_e, if_neg (by omega), ew_2, zput_e, if_neg (by omega)]) | exact (fun i j q1 q2 => by rw [ew_93, zput_e, if_neg (by omega), h_85.1 _ _ (by omega), ew_68, zput_e, if_neg (by omega), h_60.1 _ _ (by omega), ew_47, zput_e, if_neg (by omega), ew_12, zput_e, if_neg (by omega), ew_7, zput_e, if_neg (by omega), ew_2, zput_e, if_neg (by omega)]) | (exfalso; omega)) (by have e13 : w_93.1 33 13 = 0 := (by first | rw [ew_93, zput_k _ _ (by decide), ew_68, zput_k _ _ (by decide), ew_47, zput_k _ _ (by decide), ew_12, zput_k _ _ (by decide), ew_7, zput_s] | rw [ew_93, zput_k _ _ (by decide), ew_68, zput_k _ _ (by decide), h_60.1 _ _ (by omega), ew_47, zput_k _ _ (by decide), ew_12, zput_k _ _ (by decide), ew_7, zput_s] | rw [ew_93, zput_k _ _ (by decide), h_85.1 _ _ (by omega), ew_68, zput_k _ _ (by decide), h_60.1 _ _ (by omega), ew_47, zput_k _ _ (by decide), ew_12, zput_k _ _ (by decide), ew_7, zput_s] | (exfalso; omega)); rw [e13]; decide) (by first | (exfalso; omega) | exact Or.inr ⟨rfl, (by have e10 : w_93.1 33 10 = 0 := (by rw [ew_93, zput_k _ _ (by decide), ew_68, zput_k _ _ (by decide), ew_47, zput_s]; omega); rw [e10]; exact zFl_0 (by omega))⟩ | exact Or.inr ⟨rfl, (by have e10 : w_93.1 33 10 = 1 := (by rw [ew_93, zput_k _ _ (by decide), ew_68, zput_k _ _ (by decide)]; omega); rw [e10]; exact zFl_1 (by omega) (by omega))⟩ | exact Or.inr ⟨rfl, (by have e10 : w_93.1 33 10 = 2 := (by rw [ew_93, zput_k _ _ (by decide)]; omega); rw [e10]; exact zFl_2 (by omega) (by omega) (by omega))⟩ | exact Or.inl ⟨rfl, (by have e13 : w_93.1 33 13 = 0 := (by rw [ew_93, zput_k _ _ (by decide), h_85.1 _ _ (by omega), ew_68, zput_k _ _ (by decide), h_60.1 _ _ (by omega), ew_47, zput_k _ _ (by decide), ew_12, zput_k _ _ (by decide), ew_7, zput_s]); have e10 : w_93.1 33 10 = 3 := (by rw [ew_93, zput_k _ _ (by decide)]; omega); have e14 : w_93.1 33 14 = 0 := (by rw [ew_93, zput_k _ _ (by decide), h_85.1 _ _ (by omega), ew_68, zput_k _ _ (by decide), h_60.1 _ _ (by omega), ew_47, zput_k _ _ (by decide), ew_12, zput_s]); have e11 : w_93.1 33 11 = a_60 := (by rw [ew_93, zput_k _ _ (by decide), h_85.1 _ _ (by omega), ew_68, zput_s]); have e12 : w_93.1 33 12 = a_85 := (by rw [ew_93, zput_s]); unfold zI1; rw [e13]; exact ⟨⟨by omega, by omega, by omega⟩, zRS.fr hT3 (fun q => by rw [ew_93, zput_i _ _ _ _ (by decide)]) (by omega), by omega, rfl, e14, by omega, by omega, fun d d0 d1 => absurd d1 (by omega)⟩)⟩) (by have e13 : w_93.1 33 13 = 0 := (by first | rw [ew_93, zput_k _ _ (by decide), ew_68, zput_k _ _ (by decide), ew_47, zput_k _ _ (by decide), ew_12, zput_k _ _ (by decide), ew_7, zput_s] | rw [ew_93, zput_k _ _ (by decide), ew_68, zput_k _ _ (by decide), h_60.1 _ _ (by omega), ew_47, zput_k _ _ (by decide), ew_12, zput_k _ _ (by decide), ew_7, zput_s] | rw [ew_93, zput_k _ _ (by decide), h_85.1 _ _ (by omega), ew_68, zput_k _ _ (by decide), h_60.1 _ _ (by omega), ew_47, zput_k _ _ (by decide), ew_12, zput_k _ _ (by decide), ew_7, zput_s] | (exfalso; omega)); rw [e13]; decide)
    refine r_if_eq 45 dM_readsHotel_38 (by decide) ⟨by omega, by omega⟩ (fun c_38 => ?_) (fun c_38 => ?_)
    · refine r_iconst dM_readsHotel_45 ?_
      exact J_46 0 (by omega)
    · refine r_iconst dM_readsHotel_41 ?_
      refine r_goto 46 dM_readsHotel_42 (by decide) ?_
      exact J_46 1 (by omega)
  refine r_ic_ne 30 dM_readsHotel_23 (by decide) ⟨by omega, by omega⟩ ⟨by omega, by omega⟩ (fun c_23 => ?_) (fun c_23 => ?_)
  · refine r_iconst dM_readsHotel_30 ?_
    exact J_31 0 (by omega)
  · refine r_iconst dM_readsHotel_26 ?_
    refine r_goto 31 dM_readsHotel_27 (by decide) ?_
    exact J_31 1 (by omega)

set_option maxRecDepth 20000 in
set_option maxHeartbeats 4000000 in
theorem cM_hotel (w : zW) (k : Int) (lane : Int) (i : Int) (n : Int) (zk : zin k) (zlane : zin lane) (zi : zin i) (zn : zin n) : zC mM_hotel 4 [zR 33, zI k, zI lane, zI i, zI n] w (zrI fun a w' => a = fHotel (w.1 48 k) (w.1 49 k) k lane i n (zTx (fun q => w.1 50 (60 * k + i + q)) n) ∧ ((a < 2 ∧ zEq w w') ∨ (2 ≤ a ∧ (zTx (fun q => w.1 50 (60 * k + i + q)) n).1 = true ∧ 0 ≤ k ∧ k < 4 ∧ 0 ≤ i ∧ 0 ≤ n ∧ i + n ≤ w.1 48 k ∧ (∀ i' k', zkeep i' k' = true → w'.1 i' k' = (if i' = 33 ∧ k' = 29 then 0 else zHoM w (fun q => w.1 50 (60 * k + i + q)) (zTx (fun q => w.1 50 (60 * k + i + q)) n).2.2.1 (zTx (fun q => w.1 50 (60 * k + i + q)) n).2.2.2 i' k'))))) := by
  refine zC.of (by decide +kernel) (Nat.le_of_ble_eq_true rfl) ?_
  show zM mM_hotel (zZm 4 _) 0 [(0, zR 33), (1, zI k), (2, zI lane), (3, zI i), (4, zI n)] [] w
  refine r_ok (fun hO => ?_)
  have hL := hO 48 k
  change -1 ≤ w.1 48 k ∧ w.1 48 k ≤ 60 at hL
  refine r_iload_n 1 1 dM_hotel_0 rfl rfl ?_
  refine r_cSI (cM_noSheet w k (by omega)) qM_noSheet rfl kw_624 dM_hotel_1 (st0 := [zI k]) (st := []) rfl ⟨Nat.le_of_ble_eq_true rfl, Nat.le_of_ble_eq_true rfl⟩ ⟨Nat.le_of_ble_eq_true rfl, Nat.le_of_ble_eq_true rfl⟩ (Nat.le_of_ble_eq_true rfl) (fun a_1 w_1 h_1 ok_1 => ?_)
  obtain ⟨rfl, h_1⟩ := h_1
  refine r_if_eq 13 dM_hotel_4 (by decide) ⟨by omega, by omega⟩ (fun c_4 => ?_) (fun c_4 => ?_)
  · refine r_iload_n 2 2 dM_hotel_13 rfl rfl ?_
    refine r_i2l dM_hotel_14 ⟨by omega, by omega⟩ ?_
    refine r_lconst (v := 0) dM_hotel_15 rfl ?_
    refine r_ldc2 (a := 2) dM_hotel_16 kw_635 (by decide +kernel) ?_
    refine r_cSI (cM_in w lane 0 2 (by omega) (by omega) (by omega)) qM_in rfl kw_628 dM_hotel_19 (st0 := [zJ 2, zJ 0, zJ lane]) (st := []) rfl ⟨Nat.le_of_ble_eq_true rfl, Nat.le_of_ble_eq_true rfl⟩ ⟨Nat.le_of_ble_eq_true rfl, Nat.le_of_ble_eq_true rfl⟩ (Nat.le_of_ble_eq_true rfl) (fun a_19 w_19 h_19 ok_19 => ?_)
    obtain ⟨rfl, h_19⟩ := h_19
    refine r_if_ne 32 dM_hotel_22 (by decide) ⟨by omega, by omega⟩ (fun c_22 => ?_) (fun c_22 => ?_)
    · refine r_aload_n 0 0 dM_hotel_32 rfl rfl ?_
      refine r_iload_n 1 1 dM_hotel_33 rfl rfl ?_
      refine r_iload_n 2 2 dM_hotel_34 rfl rfl ?_
      refine r_iload_n 3 3 dM_hotel_35 rfl rfl ?_
      refine r_iload 4 4 dM_hotel_36 rfl ?_
      refine r_i2l dM_hotel_38 ⟨by omega, by omega⟩ ?_
      refine r_cVI (cM_cellsBarred w k lane i n (by omega) (by omega) (by omega) (by omega) (by omega)) qM_cellsBarred rfl kw_636 rfl rfl dM_hotel_39 (st0 := [zJ n, zI i, zI lane, zI k, zR 33]) (st := []) rfl ⟨Nat.le_of_ble_eq_true rfl, Nat.le_of_ble_eq_true rfl⟩ ⟨Nat.le_of_ble_eq_true rfl, Nat.le_of_ble_eq_true rfl⟩ (Nat.le_of_ble_eq_true rfl) (fun a_39 w_39 h_39 ok_39 => ?_)
      refine r_istore (ls' := [(5, zI a_39), (0, zR 33), (1, zI k), (2, zI lane), (3, zI i), (4, zI n)]) 5 dM_hotel_42 (by decide) rfl ?_
      refine r_iload 5 0 dM_hotel_44 rfl ?_
      refine r_if_ge 52 dM_hotel_46 (by decide) ⟨by omega, by omega⟩ (fun c_46 => ?_) (fun c_46 => ?_)
      · have h39 : w_39 = w := (by rcases h_39.2 with q | q; exact q.2; exact absurd q.1 (by omega))
        have hk4 : 0 ≤ k ∧ k < 4 := (by omega)
        refine r_aload_n 0 1 dM_hotel_52 rfl rfl ?_
        refine r_bipush dM_hotel_53 (by decide) ?_
        refine r_iload_n 1 2 dM_hotel_55 rfl rfl ?_
        refine r_imul dM_hotel_56 ?_
        refine r_iload_n 3 4 dM_hotel_57 rfl rfl ?_
        refine r_iadd dM_hotel_58 ?_
        refine r_iload 4 5 dM_hotel_59 rfl ?_
        refine r_cVI (cM_readsHotel w_39 ((60 * k) + i) n (fun q => w.1 50 (60 * k + i + q)) (by omega) (by omega) (by omega) (by omega) (fun q => by rw [h39])) qM_readsHotel rfl kw_647 rfl rfl dM_hotel_61 (st0 := [zI n, zI ((60 * k) + i), zR 33]) (st := []) rfl ⟨Nat.le_of_ble_eq_true rfl, Nat.le_of_ble_eq_true rfl⟩ ⟨Nat.le_of_ble_eq_true rfl, Nat.le_of_ble_eq_true rfl⟩ (Nat.le_of_ble_eq_true rfl) (fun a_61 w_61 h_61 ok_61 => ?_)
        refine r_if_ne 79 dM_hotel_64 (by decide) ⟨by omega, by omega⟩ (fun c_64 => ?_) (fun c_64 => ?_)
        · obtain ⟨t1, ⟨b1, b2, b3, b4, b5, b6, b7, b8, b9, b10⟩, t3⟩ : zTx (fun q => w.1 50 (60 * k + i + q)) n = (true, n, w_61.1 33 13, w_61.1 33 14) ∧ zI2 w_61 (60 * k + i) (fun q => w.1 50 (60 * k + i + q)) n ∧ 2 ≤ w_61.1 33 14 := (by rcases h_61.2 with q | q; exact q.2; exact absurd q.1 (by omega))
          have hfr : zFr5 w w_61 := (by have q := h_61.1; rw [h39] at q; exact q)
          obtain ⟨s0, s1, s2⟩ := b1
          change 2 < n ∧ 49 ≤ w.1 50 (60 * k + i + 2) ∧ w.1 50 (60 * k + i + 2) ≤ 57 at s2
          change 1 < n ∧ 48 ≤ w.1 50 (60 * k + i + 1) ∧ w.1 50 (60 * k + i + 1) ≤ 53 at s1
          change w_61.1 33 11 = w.1 50 (60 * k + i + 1) - 48 at b7
          change w_61.1 33 12 = w.1 50 (60 * k + i + 2) - 48 at b8
          refine r_aload_n 0 1 dM_hotel_79 rfl rfl ?_
          refine r_aload_n 0 1 dM_hotel_80 rfl rfl ?_
          refine r_getI (k := 11) fX7 rfl rfl (by decide) kw_516 rfl 11 rfl dM_hotel_81 rfl (fun y_81 ey_81 ly_81 uy_81 => ?_)
          refine r_putI (k := 1) fX7 rfl rfl (by decide) kw_506 rfl rfl (by decide +kernel) 1 rfl dM_hotel_84 rfl (by omega) (by omega) (fun w_84 ew_84 => ?_)
          refine r_aload_n 0 1 dM_hotel_87 rfl rfl ?_
          refine r_aload_n 0 1 dM_hotel_88 rfl rfl ?_
          refine r_getI (k := 12) fX7 rfl rfl (by decide) kw_517 rfl 12 rfl dM_hotel_89 rfl (fun y_89 ey_89 ly_89 uy_89 => ?_)
          rw [ew_84, zput_k (k := 1) (k' := 12) _ _ (by decide)] at ey_89
          refine r_putI (k := 2) fX7 rfl rfl (by decide) kw_507 rfl rfl (by decide +kernel) 2 rfl dM_hotel_92 rfl (by omega) (by omega) (fun w_92 ew_92 => ?_)
          refine r_aload_n 0 1 dM_hotel_95 rfl rfl ?_
          refine r_aload_n 0 1 dM_hotel_96 rfl rfl ?_
          refine r_getI (k := 13) fX7 rfl rfl (by decide) kw_518 rfl 13 rfl dM_hotel_97 rfl (fun y_97 ey_97 ly_97 uy_97 => ?_)
          rw [ew_92, zput_k (k := 2) (k' := 13) _ _ (by decide)] at ey_97
          rw [ew_84, zput_k (k := 1) (k' := 13) _ _ (by decide)] at ey_97
          refine r_putI (k := 3) fX7 rfl rfl (by decide) kw_508 rfl rfl (by decide +kernel) 3 rfl dM_hotel_100 rfl (by omega) (by omega) (fun w_100 ew_100 => ?_)
          refine r_aload_n 0 1 dM_hotel_103 rfl rfl ?_
          refine r_aload_n 0 1 dM_hotel_104 rfl rfl ?_
          refine r_getI (k := 14) fX7 rfl rfl (by decide) kw_519 rfl 14 rfl dM_hotel_105 rfl (fun y_105 ey_105 ly_105 uy_105 => ?_)
          rw [ew_100, zput_k (k := 3) (k' := 14) _ _ (by decide)] at ey_105
          rw [ew_92, zput_k (k := 2) (k' := 14) _ _ (by decide)] at ey_105
          rw [ew_84, zput_k (k := 1) (k' := 14) _ _ (by decide)] at ey_105
          refine r_putI (k := 6) fX7 rfl rfl (by decide) kw_511 rfl rfl (by decide +kernel) 6 rfl dM_hotel_108 rfl (by omega) (by omega) (fun w_108 ew_108 => ?_)
          have e108 : ∀ i' j', i' ≠ 33 → w_108.1 i' j' = w_61.1 i' j' := fun i' j' q => by rw [ew_108, zput_i _ _ _ _ q, ew_100, zput_i _ _ _ _ q, ew_92, zput_i _ _ _ _ q, ew_84, zput_i _ _ _ _ q]
          have g3 : w_108.1 33 3 = y_97 := (by rw [ew_108, zput_k _ _ (by decide), ew_100, zput_s])
          have g6 : w_108.1 33 6 = y_105 := (by rw [ew_108, zput_s])
          refine r_iconst dM_hotel_111 ?_
          refine r_istore (ls' := [(6, zI 0), (5, zI a_39), (0, zR 33), (1, zI k), (2, zI lane), (3, zI i), (4, zI n)]) 6 dM_hotel_112 (by decide) rfl ?_
          have L_114 : ∀ (n_114 : Nat) (x : Int) (wl : zW) (hx0 : 0 ≤ x) (hx1 : x ≤ y_97) (hw : ∀ i' j', wl.1 i' j' = (if i' = 34 ∧ 0 ≤ j' ∧ j' < x then w_108.1 39 j' else if i' = 35 ∧ 0 ≤ j' ∧ j' < x then w_108.1 40 j' else w_108.1 i' j')), y_97 - x < (n_114 : Int) → zM mM_hotel (zZm 4 (zrI fun a w' => a = fHotel (w.1 48 k) (w.1 49 k) k lane i n (zTx (fun q => w.1 50 (60 * k + i + q)) n) ∧ ((a < 2 ∧ zEq w w') ∨ (2 ≤ a ∧ (zTx (fun q => w.1 50 (60 * k + i + q)) n).1 = true ∧ 0 ≤ k ∧ k < 4 ∧ 0 ≤ i ∧ 0 ≤ n ∧ i + n ≤ w.1 48 k ∧ (∀ i' k', zkeep i' k' = true → w'.1 i' k' = (if i' = 33 ∧ k' = 29 then 0 else zHoM w (fun q => w.1 50 (60 * k + i + q)) (zTx (fun q => w.1 50 (60 * k + i + q)) n).2.2.1 (zTx (fun q => w.1 50 (60 * k + i + q)) n).2.2.2 i' k')))))) 114 [(6, zI x), (5, zI a_39), (0, zR 33), (1, zI k), (2, zI lane), (3, zI i), (4, zI n)] [] wl := by
            intro n_114
            induction n_114 with
            | zero => intro x wl hx0 hx1 hw hm_114; exfalso; omega
            | succ n_114 ih_114 =>
              intro x wl hx0 hx1 hw hm_114
              have g3l : wl.1 33 3 = y_97 := (by rw [hw, if_neg (by omega), if_neg (by omega)]; exact g3)
              refine r_iload 6 0 dM_hotel_114 rfl ?_
              refine r_aload_n 0 2 dM_hotel_116 rfl rfl ?_
              refine r_getI (k := 3) fX7 rfl rfl (by decide) kw_508 rfl 3 rfl dM_hotel_117 rfl (fun y_117 ey_117 ly_117 uy_117 => ?_)
              refine r_ic_ge 157 dM_hotel_120 (by decide) ⟨by omega, by omega⟩ ⟨by omega, by omega⟩ (fun c_120 => ?_) (fun c_120 => ?_)
              · refine r_iconst dM_hotel_157 ?_
                refine r_istore (ls' := [(6, zI 0), (5, zI a_39), (0, zR 33), (1, zI k), (2, zI lane), (3, zI i), (4, zI n)]) 6 dM_hotel_158 (by decide) rfl ?_
                have L_160 : ∀ (n_160 : Nat) (x : Int) (wm : zW) (hx0 : 0 ≤ x) (hx1 : x ≤ y_105) (hm : ∀ i' j', wm.1 i' j' = (if i' = 36 ∧ 0 ≤ j' ∧ j' < x then w_108.1 41 j' else if i' = 37 ∧ 0 ≤ j' ∧ j' < x then w_108.1 42 j' else if i' = 38 ∧ 0 ≤ j' ∧ j' < x then w_108.1 43 j' else if i' = 34 ∧ 0 ≤ j' ∧ j' < y_97 then w_108.1 39 j' else if i' = 35 ∧ 0 ≤ j' ∧ j' < y_97 then w_108.1 40 j' else w_108.1 i' j')), y_105 - x < (n_160 : Int) → zM mM_hotel (zZm 4 (zrI fun a w' => a = fHotel (w.1 48 k) (w.1 49 k) k lane i n (zTx (fun q => w.1 50 (60 * k + i + q)) n) ∧ ((a < 2 ∧ zEq w w') ∨ (2 ≤ a ∧ (zTx (fun q => w.1 50 (60 * k + i + q)) n).1 = true ∧ 0 ≤ k ∧ k < 4 ∧ 0 ≤ i ∧ 0 ≤ n ∧ i + n ≤ w.1 48 k ∧ (∀ i' k', zkeep i' k' = true → w'.1 i' k' = (if i' = 33 ∧ k' = 29 then 0 else zHoM w (fun q => w.1 50 (60 * k + i + q)) (zTx (fun q => w.1 50 (60 * k + i + q)) n).2.2.1 (zTx (fun q => w.1 50 (60 * k + i + q)) n).2.2.2 i' k')))))) 160 [(6, zI x), (5, zI a_39), (0, zR 33), (1, zI k), (2, zI lane), (3, zI i), (4, zI n)] [] wm := by
                  intro n_160
                  induction n_160 with
                  | zero => intro x wm hx0 hx1 hm hm_160; exfalso; omega
                  | succ n_160 ih_160 =>
                    intro x wm hx0 hx1 hm hm_160
                    have g6m : wm.1 33 6 = y_105 := (by rw [hm, if_neg (by omega), if_neg (by omega), if_neg (by omega), if_neg (by omega), if_neg (by omega)]; exact g6)
                    refine r_iload 6 0 dM_hotel_160 rfl ?_
                    refine r_aload_n 0 2 dM_hotel_162 rfl rfl ?_
                    refine r_getI (k := 6) fX7 rfl rfl (by decide) kw_511 rfl 6 rfl dM_hotel_163 rfl (fun y_163 ey_163 ly_163 uy_163 => ?_)
                    refine r_ic_ge 217 dM_hotel_166 (by decide) ⟨by omega, by omega⟩ ⟨by omega, by omega⟩ (fun c_166 => ?_) (fun c_166 => ?_)
                    · refine r_aload_n 0 2 dM_hotel_217 rfl rfl ?_
                      refine r_iconst dM_hotel_218 ?_
                      refine r_putI (k := 29) fX7 rfl rfl (by decide) kw_534 rfl rfl (by decide +kernel) 29 rfl dM_hotel_219 rfl (by omega) (by omega) (fun w_219 ew_219 => ?_)
                      refine r_aload_n 0 2 dM_hotel_222 rfl rfl ?_
                      refine r_aload_n 0 2 dM_hotel_223 rfl rfl ?_
                      refine r_getI (k := 6) fX7 rfl rfl (by decide) kw_511 rfl 6 rfl dM_hotel_224 rfl (fun y_224 ey_224 ly_224 uy_224 => ?_)
                      rw [ew_219, zput_k (k := 29) (k' := 6) _ _ (by decide)] at ey_224
                      refine r_cVI (cM_refused w_219 y_224) qM_refused rfl kw_631 rfl rfl dM_hotel_227 (st0 := [zI y_224, zR 33]) (st := []) rfl ⟨Nat.le_of_ble_eq_true rfl, Nat.le_of_ble_eq_true rfl⟩ ⟨Nat.le_of_ble_eq_true rfl, Nat.le_of_ble_eq_true rfl⟩ (Nat.le_of_ble_eq_true rfl) (fun a_227 w_227 h_227 ok_227 => ?_)
                      refine r_iret rfl dM_hotel_230 ⟨_, rfl, ?_⟩
                      have e9 : fHotel (w.1 48 k) (w.1 49 k) k lane i n (zTx (fun q => w.1 50 (60 * k + i + q)) n) = w_61.1 33 14 := (by unfold fHotel; rw [t1, if_neg (by omega), if_neg (by omega), if_neg (by omega), if_neg (by omega), if_neg (by omega), if_neg (by omega), if_pos rfl])
                      exact ⟨by rw [e9]; omega, Or.inr ⟨by omega, by rw [t1], by omega, by omega, by omega, by omega, by omega, fun i' k' hk' => by
                        rw [t1]
                        show w_227.1 i' k' = if i' = 33 ∧ k' = 29 then 0 else zHoM w (fun q => w.1 50 (60 * k + i + q)) (w_61.1 33 13) (w_61.1 33 14) i' k'
                        obtain ⟨z1, z2⟩ := zkeep_5s hk'
                        rw [h_227.1, zput_e, if_neg (fun q => by rw [q.1, q.2] at hk'; revert hk'; decide), ew_219, zput_e]
                        by_cases z : i' = 33 ∧ k' = 29
                        · rw [if_pos z, if_pos z]
                        · rw [if_neg z, if_neg z, hm i' k', show x = w_61.1 33 14 by omega, show y_97 = w_61.1 33 13 by omega]
                          unfold zHoM
                          by_cases q1 : i' = 33
                          · subst q1
                            rw [if_neg (by omega), if_neg (by omega), if_neg (by omega), if_neg (by omega), if_neg (by omega), ew_108, zput_e, ew_100, zput_e, ew_92, zput_e, ew_84, zput_e]
                            rw [hfr 33 k' z1 z2]
                            show _ = if 33 = 33 ∧ k' = 1 then w.1 50 (60 * k + i + 1) - 48 else if 33 = 33 ∧ k' = 2 then w.1 50 (60 * k + i + 2) - 48 else _
                            (repeat' split) <;> omega
                          · rw [if_neg (show ¬ (i' = 33 ∧ k' = 1) from fun q => q1 q.1), if_neg (show ¬ (i' = 33 ∧ k' = 2) from fun q => q1 q.1), if_neg (show ¬ (i' = 33 ∧ k' = 3) from fun q => q1 q.1), if_neg (show ¬ (i' = 33 ∧ k' = 6) from fun q => q1 q.1)]
                            by_cases q2 : i' = 34 ∧ 0 ≤ k' ∧ k' < w_61.1 33 13
                            · rw [if_neg (by omega), if_neg (by omega), if_neg (by omega), if_pos q2, if_pos q2, e108 _ _ (by decide), (b9 k' q2.2.1 q2.2.2).1]
                            · by_cases q3 : i' = 35 ∧ 0 ≤ k' ∧ k' < w_61.1 33 13
                              · rw [if_neg (by omega), if_neg (by omega), if_neg (by omega), if_neg q2, if_pos q3, if_neg q2, if_pos q3, e108 _ _ (by decide), (b9 k' q3.2.1 q3.2.2).2]
                              · by_cases q4 : i' = 36 ∧ 0 ≤ k' ∧ k' < w_61.1 33 14
                                · rw [if_pos q4, if_neg q2, if_neg q3, if_pos q4, e108 _ _ (by decide), (b10 k' q4.2.1 q4.2.2).1]
                                · by_cases q5 : i' = 37 ∧ 0 ≤ k' ∧ k' < w_61.1 33 14
                                  · rw [if_neg q4, if_pos q5, if_neg q2, if_neg q3, if_neg q4, if_pos q5, e108 _ _ (by decide), (b10 k' q5.2.1 q5.2.2).2.1]
                                  · by_cases q6 : i' = 38 ∧ 0 ≤ k' ∧ k' < w_61.1 33 14
                                    · rw [if_neg q4, if_neg q5, if_pos q6, if_neg q2, if_neg q3, if_neg q4, if_neg q5, if_pos q6, e108 _ _ (by decide), (b10 k' q6.2.1 q6.2.2).2.2]
                                    · rw [if_neg q4, if_neg q5, if_neg q6, if_neg q2, if_neg q3, if_neg q2, if_neg q3, if_neg q4, if_neg q5, if_neg q6, e108 _ _ q1, hfr i' k' z1 z2]⟩⟩
                    · refine r_aload_n 0 2 dM_hotel_169 rfl rfl ?_
                      refine r_getR (k := 7) (b := 36) fX7 rfl rfl rfl (by decide) kw_512 rfl dM_hotel_170 ?_
                      refine r_iload 6 0 dM_hotel_173 rfl ?_
                      refine r_aload_n 0 2 dM_hotel_175 rfl rfl ?_
                      refine r_getR (k := 17) (b := 41) fX7 rfl rfl rfl (by decide) kw_522 rfl dM_hotel_176 ?_
                      refine r_iload 6 0 dM_hotel_179 rfl ?_
                      refine r_iaload rfl (by decide) dM_hotel_181 (by omega) (by omega) rfl (fun y_181 ey_181 ly_181 uy_181 => ?_)
                      refine r_iastore rfl (by decide) dM_hotel_182 (by omega) (by omega) rfl (by omega) (by omega) (fun w_182 ew_182 => ?_)
                      refine r_aload_n 0 2 dM_hotel_183 rfl rfl ?_
                      refine r_getR (k := 8) (b := 37) fX7 rfl rfl rfl (by decide) kw_513 rfl dM_hotel_184 ?_
                      refine r_iload 6 0 dM_hotel_187 rfl ?_
                      refine r_aload_n 0 2 dM_hotel_189 rfl rfl ?_
                      refine r_getR (k := 18) (b := 42) fX7 rfl rfl rfl (by decide) kw_523 rfl dM_hotel_190 ?_
                      refine r_iload 6 0 dM_hotel_193 rfl ?_
                      refine r_iaload rfl (by decide) dM_hotel_195 (by omega) (by omega) rfl (fun y_195 ey_195 ly_195 uy_195 => ?_)
                      rw [ew_182, zput_i (i := 36) (i' := 42) _ _ _ _ (by decide)] at ey_195
                      refine r_iastore rfl (by decide) dM_hotel_196 (by omega) (by omega) rfl (by omega) (by omega) (fun w_196 ew_196 => ?_)
                      refine r_aload_n 0 2 dM_hotel_197 rfl rfl ?_
                      refine r_getR (k := 9) (b := 38) fX7 rfl rfl rfl (by decide) kw_514 rfl dM_hotel_198 ?_
                      refine r_iload 6 0 dM_hotel_201 rfl ?_
                      refine r_aload_n 0 2 dM_hotel_203 rfl rfl ?_
                      refine r_getR (k := 19) (b := 43) fX7 rfl rfl rfl (by decide) kw_524 rfl dM_hotel_204 ?_
                      refine r_iload 6 0 dM_hotel_207 rfl ?_
                      refine r_iaload rfl (by decide) dM_hotel_209 (by omega) (by omega) rfl (fun y_209 ey_209 ly_209 uy_209 => ?_)
                      rw [ew_196, zput_i (i := 37) (i' := 43) _ _ _ _ (by decide)] at ey_209
                      rw [ew_182, zput_i (i := 36) (i' := 43) _ _ _ _ (by decide)] at ey_209
                      refine r_iastore rfl (by decide) dM_hotel_210 (by omega) (by omega) rfl (by omega) (by omega) (fun w_210 ew_210 => ?_)
                      refine r_iinc (ls' := [(6, zI (x + 1)), (5, zI a_39), (0, zR 33), (1, zI k), (2, zI lane), (3, zI i), (4, zI n)]) 6 0 dM_hotel_211 rfl (by decide) rfl ?_
                      refine r_goto 160 dM_hotel_214 (by decide) ?_
                      exact ih_160 (x + 1) w_210 (by omega) (by omega) (fun i' j' => by rw [ew_210, zput_e, ew_196, zput_e, ew_182, zput_e, hm i' j', show y_209 = w_108.1 43 x by (rw [ey_209, hm]; rw [if_neg (by omega), if_neg (by omega), if_neg (by omega), if_neg (by omega), if_neg (by omega)]), show y_195 = w_108.1 42 x by (rw [ey_195, hm]; rw [if_neg (by omega), if_neg (by omega), if_neg (by omega), if_neg (by omega), if_neg (by omega)]), show y_181 = w_108.1 41 x by (rw [ey_181, hm]; rw [if_neg (by omega), if_neg (by omega), if_neg (by omega), if_neg (by omega), if_neg (by omega)])]; (repeat' split) <;> first | rfl | (exfalso; omega) | (rename_i q; rw [q.2]; done) | (rw [show j' = x by omega])) (by omega)
                exact L_160 7 0 wl (by omega) (by omega) (fun i' j' => by rw [if_neg (by omega), if_neg (by omega), if_neg (by omega), hw i' j', show x = y_97 by omega]) (by omega)
              · refine r_aload_n 0 2 dM_hotel_123 rfl rfl ?_
                refine r_getR (k := 4) (b := 34) fX7 rfl rfl rfl (by decide) kw_509 rfl dM_hotel_124 ?_
                refine r_iload 6 0 dM_hotel_127 rfl ?_
                refine r_aload_n 0 2 dM_hotel_129 rfl rfl ?_
                refine r_getR (k := 15) (b := 39) fX7 rfl rfl rfl (by decide) kw_520 rfl dM_hotel_130 ?_
                refine r_iload 6 0 dM_hotel_133 rfl ?_
                refine r_iaload rfl (by decide) dM_hotel_135 (by omega) (by omega) rfl (fun y_135 ey_135 ly_135 uy_135 => ?_)
                refine r_iastore rfl (by decide) dM_hotel_136 (by omega) (by omega) rfl (by omega) (by omega) (fun w_136 ew_136 => ?_)
                refine r_aload_n 0 2 dM_hotel_137 rfl rfl ?_
                refine r_getR (k := 5) (b := 35) fX7 rfl rfl rfl (by decide) kw_510 rfl dM_hotel_138 ?_
                refine r_iload 6 0 dM_hotel_141 rfl ?_
                refine r_aload_n 0 2 dM_hotel_143 rfl rfl ?_
                refine r_getR (k := 16) (b := 40) fX7 rfl rfl rfl (by decide) kw_521 rfl dM_hotel_144 ?_
                refine r_iload 6 0 dM_hotel_147 rfl ?_
                refine r_iaload rfl (by decide) dM_hotel_149 (by omega) (by omega) rfl (fun y_149 ey_149 ly_149 uy_149 => ?_)
                rw [ew_136, zput_i (i := 34) (i' := 40) _ _ _ _ (by decide)] at ey_149
                refine r_iastore rfl (by decide) dM_hotel_150 (by omega) (by omega) rfl (by omega) (by omega) (fun w_150 ew_150 => ?_)
                refine r_iinc (ls' := [(6, zI (x + 1)), (5, zI a_39), (0, zR 33), (1, zI k), (2, zI lane), (3, zI i), (4, zI n)]) 6 0 dM_hotel_151 rfl (by decide) rfl ?_
                refine r_goto 114 dM_hotel_154 (by decide) ?_
                exact ih_114 (x + 1) w_150 (by omega) (by omega) (fun i' j' => by rw [ew_150, zput_e, ew_136, zput_e, hw i' j', show y_149 = w_108.1 40 x by (rw [ey_149, hw]; rw [if_neg (by omega), if_neg (by omega)]), show y_135 = w_108.1 39 x by (rw [ey_135, hw]; rw [if_neg (by omega), if_neg (by omega)])]; (repeat' split) <;> first | rfl | (exfalso; omega) | (rename_i q; rw [q.2]; done) | (rw [show j' = x by omega])) (by omega)
          exact L_114 7 0 w_108 (by omega) (by omega) (fun i' j' => by rw [if_neg (by omega), if_neg (by omega)]) (by omega)
        · refine r_aload_n 0 1 dM_hotel_67 rfl rfl ?_
          refine r_bipush dM_hotel_68 (by decide) ?_
          refine r_aload_n 0 1 dM_hotel_70 rfl rfl ?_
          refine r_getI (k := 10) fX7 rfl rfl (by decide) kw_515 rfl 10 rfl dM_hotel_71 rfl (fun y_71 ey_71 ly_71 uy_71 => ?_)
          refine r_isub dM_hotel_74 ?_
          refine r_cVI (cM_refused w_61 ((-100) - y_71)) qM_refused rfl kw_631 rfl rfl dM_hotel_75 (st0 := [zI ((-100) - y_71), zR 33]) (st := []) rfl ⟨Nat.le_of_ble_eq_true rfl, Nat.le_of_ble_eq_true rfl⟩ ⟨Nat.le_of_ble_eq_true rfl, Nat.le_of_ble_eq_true rfl⟩ (Nat.le_of_ble_eq_true rfl) (fun a_75 w_75 h_75 ok_75 => ?_)
          refine r_iret rfl dM_hotel_78 ⟨_, rfl, ?_⟩
          obtain ⟨u1, u2⟩ : zFl (fun q => w.1 50 (60 * k + i + q)) n (w_61.1 33 10) := (by rcases h_61.2 with q | q; exact absurd q.1 (by omega); exact q.2)
          have e9 : fHotel (w.1 48 k) (w.1 49 k) k lane i n (zTx (fun q => w.1 50 (60 * k + i + q)) n) = -100 - w_61.1 33 10 := (by unfold fHotel; rw [if_neg (by omega), if_neg (by omega), if_neg (by omega), if_neg (by omega), if_neg (by omega), if_neg (by omega), u1, if_neg Bool.false_ne_true, u2])
          have hfr : zFr5 w w_61 := (by have q := h_61.1; rw [h39] at q; exact q)
          exact ⟨by rw [e9]; omega, Or.inl ⟨by omega, by rw [h_75.1]; exact zEq.put (fun i' k' hk' => hfr i' k' (zkeep_5s hk').1 (zkeep_5s hk').2) (by decide)⟩⟩
      · refine r_iload 5 0 dM_hotel_49 rfl ?_
        refine r_iret rfl dM_hotel_51 ⟨_, rfl, ?_⟩
        have hk4 : 0 ≤ k ∧ k < 4 := (by omega)
        have e9 : fHotel (w.1 48 k) (w.1 49 k) k lane i n (zTx (fun q => w.1 50 (60 * k + i + q)) n) = a_39 := (by have q := h_39.1; unfold fHotel; rw [if_neg (by omega), if_neg (by omega)]; rw [q] at c_46 ⊢; (repeat' split at c_46) <;> (repeat' split) <;> omega)
        exact ⟨e9.symm, Or.inl ⟨by omega, by rcases h_39.2 with ⟨_, q⟩ | ⟨_, f, q⟩; (rw [q]; exact zEq.refl w); (rw [q]; exact (zEq.refl w).put (by decide))⟩⟩
    · refine r_aload_n 0 0 dM_hotel_25 rfl rfl ?_
      refine r_bipush dM_hotel_26 (by decide) ?_
      refine r_cVI (cM_refused w (-2)) qM_refused rfl kw_631 rfl rfl dM_hotel_28 (st0 := [zI (-2), zR 33]) (st := []) rfl ⟨Nat.le_of_ble_eq_true rfl, Nat.le_of_ble_eq_true rfl⟩ ⟨Nat.le_of_ble_eq_true rfl, Nat.le_of_ble_eq_true rfl⟩ (Nat.le_of_ble_eq_true rfl) (fun a_28 w_28 h_28 ok_28 => ?_)
      refine r_iret rfl dM_hotel_31 ⟨_, rfl, ?_⟩
      have e9 : fHotel (w.1 48 k) (w.1 49 k) k lane i n (zTx (fun q => w.1 50 (60 * k + i + q)) n) = -2 := (by unfold fHotel; (repeat' split) <;> omega)
      exact ⟨by first | (rw [e9]; done) | (rw [e9]; omega), Or.inl ⟨by omega, (show zEq w w_28 from by rw [h_28.1]; exact (zEq.refl w).put (by decide))⟩⟩
  · refine r_aload_n 0 0 dM_hotel_7 rfl rfl ?_
    refine r_iconst dM_hotel_8 ?_
    refine r_cVI (cM_refused w (-1)) qM_refused rfl kw_631 rfl rfl dM_hotel_9 (st0 := [zI (-1), zR 33]) (st := []) rfl ⟨Nat.le_of_ble_eq_true rfl, Nat.le_of_ble_eq_true rfl⟩ ⟨Nat.le_of_ble_eq_true rfl, Nat.le_of_ble_eq_true rfl⟩ (Nat.le_of_ble_eq_true rfl) (fun a_9 w_9 h_9 ok_9 => ?_)
    refine r_iret rfl dM_hotel_12 ⟨_, rfl, ?_⟩
    have e9 : fHotel (w.1 48 k) (w.1 49 k) k lane i n (zTx (fun q => w.1 50 (60 * k + i + q)) n) = -1 := (by unfold fHotel; (repeat' split) <;> omega)
    exact ⟨by first | (rw [e9]; done) | (rw [e9]; omega), Or.inl ⟨by omega, (show zEq w w_9 from by rw [h_9.1]; exact (zEq.refl w).put (by decide))⟩⟩
