set_option maxRecDepth 20000 in
set_option maxHeartbeats 4000000 in
theorem cC_hotel (w : zW) (k : Int) (lane : Int) (i : Int) (n : Int) (zk : zin k) (zlane : zin lane) (zi : zin i) (zn : zin n) : zC mC_hotel 4 [zR 0, zI k, zI lane, zI i, zI n] w (zrI fun a w' => a = fHotel (zSz w k) (w.1 14 k) k lane i n (zTx (fun q => w.1 (16 + k.toNat) (i + q)) n) ∧ ((a < 2 ∧ zEq w w') ∨ (2 ≤ a ∧ (zTx (fun q => w.1 (16 + k.toNat) (i + q)) n).1 = true ∧ 0 ≤ k ∧ k < 4 ∧ 0 ≤ i ∧ 0 ≤ n ∧ i + n ≤ zSz w k ∧ zSz w k ≤ 60 ∧ (∀ i' k', zkeep i' k' = true → w'.1 i' k' = (if i' = 6 ∧ k' = 3 then 0 else zHoC w (fun q => w.1 (16 + k.toNat) (i + q)) (zTx (fun q => w.1 (16 + k.toNat) (i + q)) n).2.2.1 (zTx (fun q => w.1 (16 + k.toNat) (i + q)) n).2.2.2 i' k'))))) := by
  refine zC.of (by decide +kernel) (Nat.le_of_ble_eq_true rfl) ?_
  show zM mC_hotel (zZm 4 _) 0 [(0, zR 0), (1, zI k), (2, zI lane), (3, zI i), (4, zI n)] [] w
  refine r_ok (fun hO => ?_)
  have hL := hO 15 k
  change 0 ≤ w.1 15 k ∧ w.1 15 k ≤ 60 at hL
  have hG := hO 1 3
  change 0 ≤ w.1 1 3 ∧ w.1 1 3 ≤ 6 at hG
  have hDs := hO 1 2
  change 0 ≤ w.1 1 2 ∧ w.1 1 2 ≤ 4 at hDs
  refine r_aload_n 0 0 dC_hotel_0 rfl rfl ?_
  refine r_iconst dC_hotel_1 ?_
  refine r_putI (k := 7) fX6 rfl rfl (by decide) kw_194 rfl rfl (by decide +kernel) 7 rfl dC_hotel_2 rfl (by omega) (by omega) (fun w_2 ew_2 => ?_)
  have hz2 : ∀ i k, i ≠ 0 → w_2.1 i k = w.1 i k := fun i k q => by rw [ew_2, zput_i _ _ _ _ q]
  have hq2 : zEq w w_2 := by rw [ew_2]; exact (zEq.refl w).put (by decide)
  have hs2 : ∀ q, zSz w_2 q = zSz w q := fun q => by unfold zSz; rw [hz2 13 q (by decide), hz2 15 q (by decide)]
  have hr2 : (fun j => w_2.1 (16 + k.toNat) (i + j)) = (fun j => w.1 (16 + k.toNat) (i + j)) := funext fun j => hz2 _ _ (by omega)
  refine r_aload_n 0 0 dC_hotel_5 rfl rfl ?_
  refine r_getR (k := 1) (b := 2) fX6 rfl rfl rfl (by decide) kw_188 rfl dC_hotel_6 ?_
  refine r_iload_n 1 1 dC_hotel_9 rfl rfl ?_
  refine r_cVIN (cS_isSheet w_2 k (by omega)) qS_isSheet rfl kw_216 rfl rfl dC_hotel_10 (st0 := [zI k, zR 2]) (st := []) rfl ⟨Nat.le_of_ble_eq_true rfl, Nat.le_of_ble_eq_true rfl⟩ ⟨Nat.le_of_ble_eq_true rfl, Nat.le_of_ble_eq_true rfl⟩ (Nat.le_of_ble_eq_true rfl) (fun a_10 w_10 h_10 ok_10 => ?_)
  obtain ⟨rfl, h_10⟩ := h_10
  refine r_if_ne 18 dC_hotel_13 (by decide) ⟨by omega, by omega⟩ (fun c_13 => ?_) (fun c_13 => ?_)
  · refine r_iload_n 2 2 dC_hotel_18 rfl rfl ?_
    refine r_cSI (cC_isLane w_2 lane (by omega)) qC_isLane rfl kw_220 dC_hotel_19 (st0 := [zI lane]) (st := []) rfl ⟨Nat.le_of_ble_eq_true rfl, Nat.le_of_ble_eq_true rfl⟩ ⟨Nat.le_of_ble_eq_true rfl, Nat.le_of_ble_eq_true rfl⟩ (Nat.le_of_ble_eq_true rfl) (fun a_19 w_19 h_19 ok_19 => ?_)
    obtain ⟨rfl, h_19⟩ := h_19
    refine r_if_ne 28 dC_hotel_22 (by decide) ⟨by omega, by omega⟩ (fun c_22 => ?_) (fun c_22 => ?_)
    · refine r_aload_n 0 0 dC_hotel_28 rfl rfl ?_
      refine r_getR (k := 1) (b := 2) fX6 rfl rfl rfl (by decide) kw_188 rfl dC_hotel_29 ?_
      refine r_iload_n 1 1 dC_hotel_32 rfl rfl ?_
      refine r_iload_n 2 2 dC_hotel_33 rfl rfl ?_
      refine r_cVIN (cS_faultAsRow w_2 k lane (by omega) (by omega) (by omega)) qS_faultAsRow rfl kw_223 rfl rfl dC_hotel_34 (st0 := [zI lane, zI k, zR 2]) (st := []) rfl ⟨Nat.le_of_ble_eq_true rfl, Nat.le_of_ble_eq_true rfl⟩ ⟨Nat.le_of_ble_eq_true rfl, Nat.le_of_ble_eq_true rfl⟩ (Nat.le_of_ble_eq_true rfl) (fun a_34 w_34 h_34 ok_34 => ?_)
      obtain ⟨rfl, h_34⟩ := h_34
      have z_34_0 : w_2.1 13 k = w.1 13 k := by rw [ew_2, zput_i (i := 0) (i' := 13) _ _ _ _ (by decide)]
      have z_34_1 : w_2.1 14 k = w.1 14 k := by rw [ew_2, zput_i (i := 0) (i' := 14) _ _ _ _ (by decide)]
      refine r_istore (ls' := [(5, zI a_34), (0, zR 0), (1, zI k), (2, zI lane), (3, zI i), (4, zI n)]) 5 dC_hotel_37 (by decide) rfl ?_
      refine r_iload 5 0 dC_hotel_39 rfl ?_
      refine r_if_eq 51 dC_hotel_41 (by decide) ⟨by omega, by omega⟩ (fun c_41 => ?_) (fun c_41 => ?_)
      · refine r_iload 4 5 dC_hotel_51 rfl ?_
        refine r_if_ge 62 dC_hotel_53 (by decide) ⟨by omega, by omega⟩ (fun c_53 => ?_) (fun c_53 => ?_)
        · refine r_aload_n 0 1 dC_hotel_62 rfl rfl ?_
          refine r_getR (k := 1) (b := 2) fX6 rfl rfl rfl (by decide) kw_188 rfl dC_hotel_63 ?_
          refine r_iload_n 1 2 dC_hotel_66 rfl rfl ?_
          refine r_iload_n 3 4 dC_hotel_67 rfl rfl ?_
          refine r_iload 4 5 dC_hotel_68 rfl ?_
          refine r_cVIN (cS_spans w_2 k i n (by omega) (by omega) (by omega) (by omega)) qS_spans rfl kw_231 rfl rfl dC_hotel_70 (st0 := [zI n, zI i, zI k, zR 2]) (st := []) rfl ⟨Nat.le_of_ble_eq_true rfl, Nat.le_of_ble_eq_true rfl⟩ ⟨Nat.le_of_ble_eq_true rfl, Nat.le_of_ble_eq_true rfl⟩ (Nat.le_of_ble_eq_true rfl) (fun a_70 w_70 h_70 ok_70 => ?_)
          obtain ⟨rfl, h_70⟩ := h_70
          have z_70_0 : w_2.1 15 k = w.1 15 k := by rw [ew_2, zput_i (i := 0) (i' := 15) _ _ _ _ (by decide)]
          refine r_if_ne 82 dC_hotel_73 (by decide) ⟨by omega, by omega⟩ (fun c_73 => ?_) (fun c_73 => ?_)
          · refine r_aload_n 0 1 dC_hotel_82 rfl rfl ?_
            refine r_getR (k := 1) (b := 2) fX6 rfl rfl rfl (by decide) kw_188 rfl dC_hotel_83 ?_
            refine r_getRN (k := 0) (b := 12) fX4 rfl rfl rfl (by decide) kw_77 rfl dC_hotel_86 ?_
            refine r_iload_n 1 2 dC_hotel_89 rfl rfl ?_
            refine r_aaload (b := (16 + k.toNat)) rfl (by decide) dC_hotel_90 (by omega) (by omega) (z_row _ (by omega) (by omega)) ?_
            refine r_astore (ls' := [(6, zR (16 + k.toNat)), (5, zI a_34), (0, zR 0), (1, zI k), (2, zI lane), (3, zI i), (4, zI n)]) 6 dC_hotel_91 (by decide) rfl ?_
            refine r_aload_n 0 2 dC_hotel_93 rfl rfl ?_
            refine r_getR (k := 2) (b := 3) fX6 rfl rfl rfl (by decide) kw_189 rfl dC_hotel_94 ?_
            refine r_aload 6 0 dC_hotel_97 rfl ?_
            refine r_iload_n 3 5 dC_hotel_99 rfl rfl ?_
            refine r_iload 4 6 dC_hotel_100 rfl ?_
            refine r_cVIN (cT_isOne w_2 (16 + k.toNat) i n (z_rowS (by omega) (by omega)) (fun q => z_rowB (by omega) (by omega) q) (by omega) (by omega) (by omega) (by omega)) qT_isOne rfl kw_235 rfl rfl dC_hotel_102 (st0 := [zI n, zI i, zR (16 + k.toNat), zR 3]) (st := []) rfl ⟨Nat.le_of_ble_eq_true rfl, Nat.le_of_ble_eq_true rfl⟩ ⟨Nat.le_of_ble_eq_true rfl, Nat.le_of_ble_eq_true rfl⟩ (Nat.le_of_ble_eq_true rfl) (fun a_102 w_102 h_102 ok_102 => ?_)
            have hA9 : ∀ q, w_2.1 (16 + k.toNat) q = w.1 (16 + k.toNat) q := fun q => hz2 _ _ (by omega)
            have hc9 : (fun q => w_2.1 (16 + k.toNat) (i + q)) = (fun q => w.1 (16 + k.toNat) (i + q)) := funext fun q => hA9 _
            rw [hc9] at h_102
            refine r_if_ne 119 dC_hotel_105 (by decide) ⟨by omega, by omega⟩ (fun c_105 => ?_) (fun c_105 => ?_)
            · have hT1 : (zTx (fun q => w.1 (16 + k.toNat) (i + q)) n).1 = true := (by rcases h_102.1 with q | q; exact q.1; exact absurd q.2 (by omega))
              obtain ⟨t1, t2, t3, t4, t5, t6, t7, t8, t9, t10⟩ := zTx_ok hT1
              obtain ⟨g1, g2⟩ := h_102.2.2.1 hT1
              have hB9 : ∀ q, w_102.1 (16 + k.toNat) q = w.1 (16 + k.toNat) q := fun q => (by rw [h_102.2.2.2 _ _ (by omega), hA9])
              have hcf : (fun q => w_102.1 (16 + k.toNat) (i + q)) = (fun q => w.1 (16 + k.toNat) (i + q)) := funext fun q => hB9 _
              refine r_aload_n 0 2 dC_hotel_119 rfl rfl ?_
              refine r_getR (k := 0) (b := 1) fX6 rfl rfl rfl (by decide) kw_187 rfl dC_hotel_120 ?_
              refine r_aload 6 0 dC_hotel_123 rfl ?_
              refine r_iload_n 3 5 dC_hotel_125 rfl rfl ?_
              refine r_aload_n 0 2 dC_hotel_126 rfl rfl ?_
              refine r_getR (k := 2) (b := 3) fX6 rfl rfl rfl (by decide) kw_189 rfl dC_hotel_127 ?_
              refine r_getIN (k := 4) fX5 rfl rfl (by decide) kw_104 rfl 4 rfl dC_hotel_130 rfl (fun y_130 ey_130 ly_130 uy_130 => ?_)
              refine r_aload_n 0 2 dC_hotel_133 rfl rfl ?_
              refine r_getR (k := 2) (b := 3) fX6 rfl rfl rfl (by decide) kw_189 rfl dC_hotel_134 ?_
              refine r_getIN (k := 5) fX5 rfl rfl (by decide) kw_106 rfl 5 rfl dC_hotel_137 rfl (fun y_137 ey_137 ly_137 uy_137 => ?_)
              have e130 : y_130 = (zTx (fun q => w.1 (16 + k.toNat) (i + q)) n).2.2.1 := (by rw [ey_130, g1])
              have e137 : y_137 = (zTx (fun q => w.1 (16 + k.toNat) (i + q)) n).2.2.2 := (by rw [ey_137, g2])
              refine r_cVVN (cH_open w_102 (16 + k.toNat) i y_130 y_137 (z_rowS (by omega) (by omega)) (fun q => z_rowB (by omega) (by omega) q) (by omega) (by omega) (by omega) (by omega) (by omega) (by omega) (by omega) (by rw [hB9]; exact t7) (by rw [hB9]; exact t8) (fun d q1 q2 => by rw [hB9, hB9]; exact t9 d q1 (by omega)) (fun g q1 q2 => by rw [hB9, hB9, e130]; exact (t10 g q1 (by omega)).2)) qH_open rfl kw_255 rfl rfl dC_hotel_140 (st0 := [zI y_137, zI y_130, zI i, zR (16 + k.toNat), zR 1]) (st := []) rfl ⟨Nat.le_of_ble_eq_true rfl, Nat.le_of_ble_eq_true rfl⟩ ⟨Nat.le_of_ble_eq_true rfl, Nat.le_of_ble_eq_true rfl⟩ (Nat.le_of_ble_eq_true rfl) (fun w_140 h_140 ok_140 => ?_)
              refine r_aload_n 0 2 dC_hotel_143 rfl rfl ?_
              refine r_getR (k := 5) (b := 6) fX6 rfl rfl rfl (by decide) kw_192 rfl dC_hotel_144 ?_
              refine r_iconst dC_hotel_147 ?_
              refine r_putIN (k := 3) fX1 rfl rfl (by decide) kw_177 rfl rfl (by decide +kernel) 3 rfl dC_hotel_148 rfl (by omega) (by omega) (fun w_148 ew_148 => ?_)
              refine r_aload_n 0 2 dC_hotel_151 rfl rfl ?_
              refine r_getR (k := 0) (b := 1) fX6 rfl rfl rfl (by decide) kw_187 rfl dC_hotel_152 ?_
              refine r_getIN (k := 3) fX0 rfl rfl (by decide) kw_35 rfl 3 rfl dC_hotel_155 rfl (fun y_155 ey_155 ly_155 uy_155 => ?_)
              rw [ew_148, zput_i (i := 6) (i' := 1) _ _ _ _ (by decide)] at ey_155
              refine r_iret rfl dC_hotel_158 ⟨_, rfl, ?_⟩
              have hz9 : zSz w k = w.1 15 k := (by unfold zSz; rw [if_neg (by omega)])
              have e9 : fHotel (zSz w k) (w.1 14 k) k lane i n (zTx (fun q => w.1 (16 + k.toNat) (i + q)) n) = (zTx (fun q => w.1 (16 + k.toNat) (i + q)) n).2.2.2 := (by unfold fHotel; rw [if_neg (by omega), if_neg (by omega), if_neg (by omega), if_neg (by omega), if_neg (by omega), if_neg (by omega), if_pos hT1])
              have e155 : y_155 = y_137 := (by rw [ey_155, h_140]; rfl)
              exact ⟨by rw [e9]; omega, Or.inr ⟨by omega, hT1, by omega, by omega, by omega, by omega, by omega, by omega, fun i' k' hk' => by rw [ew_148, zput_e, h_140, hcf, e130, e137]; split; rfl; unfold zHoC; rw [h_102.2.2.2 i' k' (fun q => by rw [q, zkeep_3] at hk'; cases hk'), hq2 i' k' hk']⟩⟩
            · refine r_bipush dC_hotel_108 (by decide) ?_
              refine r_aload_n 0 2 dC_hotel_110 rfl rfl ?_
              refine r_getR (k := 2) (b := 3) fX6 rfl rfl rfl (by decide) kw_189 rfl dC_hotel_111 ?_
              refine r_getIN (k := 3) fX5 rfl rfl (by decide) kw_103 rfl 3 rfl dC_hotel_114 rfl (fun y_114 ey_114 ly_114 uy_114 => ?_)
              refine r_isub dC_hotel_117 ?_
              refine r_iret rfl dC_hotel_118 ⟨_, rfl, ?_⟩
              have hT0 : (zTx (fun q => w.1 (16 + k.toNat) (i + q)) n).1 = false := (by rcases h_102.1 with q | q; exact absurd q.2 (by omega); exact q.1)
              have hz9 : zSz w k = w.1 15 k := (by unfold zSz; rw [if_neg (by omega)])
              have e9 : fHotel (zSz w k) (w.1 14 k) k lane i n (zTx (fun q => w.1 (16 + k.toNat) (i + q)) n) = -100 - (zTx (fun q => w.1 (16 + k.toNat) (i + q)) n).2.1 := (by unfold fHotel; rw [if_neg (by omega), if_neg (by omega), if_neg (by omega), if_neg (by omega), if_neg (by omega), if_neg (by omega), if_neg (by rw [hT0]; exact Bool.false_ne_true)])
              have e8 := h_102.2.1
              have l8 : 0 ≤ y_114 := (by omega)
              exact ⟨by rw [e9]; omega, Or.inl ⟨by omega, hq2.out 3 zkeep_3 h_102.2.2.2⟩⟩
          · refine r_aload_n 0 1 dC_hotel_76 rfl rfl ?_
            refine r_iconst dC_hotel_77 ?_
            refine r_cVI (cC_faulty w_2 3 (by omega) (by omega)) qC_faulty rfl kw_227 rfl rfl dC_hotel_78 (st0 := [zI 3, zR 0]) (st := []) rfl ⟨Nat.le_of_ble_eq_true rfl, Nat.le_of_ble_eq_true rfl⟩ ⟨Nat.le_of_ble_eq_true rfl, Nat.le_of_ble_eq_true rfl⟩ (Nat.le_of_ble_eq_true rfl) (fun a_78 w_78 h_78 ok_78 => ?_)
            refine r_iret rfl dC_hotel_81 ⟨_, rfl, ?_⟩
            have e9 : fHotel (zSz w k) (w.1 14 k) k lane i n (zTx (fun q => w.1 (16 + k.toNat) (i + q)) n) = -13 := (by unfold fHotel zSz; (repeat' split) <;> omega)
            exact ⟨by first | (rw [e9]; done) | (rw [e9]; omega), Or.inl ⟨by omega, (by rw [h_78.1]; exact hq2.put (by decide))⟩⟩
        · refine r_aload_n 0 1 dC_hotel_56 rfl rfl ?_
          refine r_iconst dC_hotel_57 ?_
          refine r_cVI (cC_faulty w_2 4 (by omega) (by omega)) qC_faulty rfl kw_227 rfl rfl dC_hotel_58 (st0 := [zI 4, zR 0]) (st := []) rfl ⟨Nat.le_of_ble_eq_true rfl, Nat.le_of_ble_eq_true rfl⟩ ⟨Nat.le_of_ble_eq_true rfl, Nat.le_of_ble_eq_true rfl⟩ (Nat.le_of_ble_eq_true rfl) (fun a_58 w_58 h_58 ok_58 => ?_)
          refine r_iret rfl dC_hotel_61 ⟨_, rfl, ?_⟩
          have e9 : fHotel (zSz w k) (w.1 14 k) k lane i n (zTx (fun q => w.1 (16 + k.toNat) (i + q)) n) = -14 := (by unfold fHotel zSz; (repeat' split) <;> omega)
          exact ⟨by first | (rw [e9]; done) | (rw [e9]; omega), Or.inl ⟨by omega, (by rw [h_58.1]; exact hq2.put (by decide))⟩⟩
      · refine r_aload_n 0 1 dC_hotel_44 rfl rfl ?_
        refine r_iload 5 0 dC_hotel_45 rfl ?_
        refine r_cVI (cC_faulty w_2 a_34 (by omega) (by omega)) qC_faulty rfl kw_227 rfl rfl dC_hotel_47 (st0 := [zI a_34, zR 0]) (st := []) rfl ⟨Nat.le_of_ble_eq_true rfl, Nat.le_of_ble_eq_true rfl⟩ ⟨Nat.le_of_ble_eq_true rfl, Nat.le_of_ble_eq_true rfl⟩ (Nat.le_of_ble_eq_true rfl) (fun a_47 w_47 h_47 ok_47 => ?_)
        refine r_iret rfl dC_hotel_50 ⟨_, rfl, ?_⟩
        have e9 : fHotel (zSz w k) (w.1 14 k) k lane i n (zTx (fun q => w.1 (16 + k.toNat) (i + q)) n) = (-10 - a_34) := (by unfold fHotel zSz; (repeat' split) <;> omega)
        exact ⟨by first | (rw [e9]; done) | (rw [e9]; omega), Or.inl ⟨by omega, (by rw [h_47.1]; exact hq2.put (by decide))⟩⟩
    · refine r_bipush dC_hotel_25 (by decide) ?_
      refine r_iret rfl dC_hotel_27 ⟨_, rfl, ?_⟩
      have e9 : fHotel (zSz w k) (w.1 14 k) k lane i n (zTx (fun q => w.1 (16 + k.toNat) (i + q)) n) = -2 := (by unfold fHotel zSz; (repeat' split) <;> omega)
      exact ⟨by first | (rw [e9]; done) | (rw [e9]; omega), Or.inl ⟨by omega, hq2⟩⟩
  · refine r_iconst dC_hotel_16 ?_
    refine r_iret rfl dC_hotel_17 ⟨_, rfl, ?_⟩
    have e9 : fHotel (zSz w k) (w.1 14 k) k lane i n (zTx (fun q => w.1 (16 + k.toNat) (i + q)) n) = -1 := (by unfold fHotel zSz; (repeat' split) <;> omega)
    exact ⟨by first | (rw [e9]; done) | (rw [e9]; omega), Or.inl ⟨by omega, hq2⟩⟩
