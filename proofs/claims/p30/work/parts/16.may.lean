set_option maxRecDepth 20000 in
set_option maxHeartbeats 4000000 in
theorem cC_may (w : zW) (k : Int) (lane : Int) (i : Int) (n : Int) (v : Int) (zk : zin k) (zlane : zin lane) (zi : zin i) (zn : zin n) (zv : zin v) : zC mC_may 4 [zR 0, zI k, zI lane, zI i, zI n, zI v] w (zrI fun a w' => a = (if ¬ (if k < 0 ∨ 4 ≤ k then -1 else if lane < 0 ∨ 2 < lane ∨ n < 0 ∨ 20 < n ∨ v < 0 ∨ 5 < v then -2 else if w.1 1 3 = 0 then -3 else fPairs (w.1 1 3) (w.1 1 2) (zSz w k) (w.1 14 k) lane i n (fun j => w.1 (16 + k.toNat) (i + j))) = 0 then (if k < 0 ∨ 4 ≤ k then -1 else if lane < 0 ∨ 2 < lane ∨ n < 0 ∨ 20 < n ∨ v < 0 ∨ 5 < v then -2 else if w.1 1 3 = 0 then -3 else fPairs (w.1 1 3) (w.1 1 2) (zSz w k) (w.1 14 k) lane i n (fun j => w.1 (16 + k.toNat) (i + j))) else if ¬ (zSeaC w (16 + k.toNat) i 0 n.toNat).2.1 = -9 then -100 - (zSeaC w (16 + k.toNat) i 0 n.toNat).2.1 else zSet (fun g => decide ((zSeaC w (16 + k.toNat) i g n.toNat).1 = v)) (w.1 1 3).toNat) ∧ zEq w w') := by
  refine zC.of (by decide +kernel) (Nat.le_of_ble_eq_true rfl) ?_
  show zM mC_may (zZm 4 _) 0 [(0, zR 0), (1, zI k), (2, zI lane), (3, zI i), (4, zI n), (5, zI v)] [] w
  refine r_ok (fun hO => ?_)
  have hL := hO 15 k
  change 0 ≤ w.1 15 k ∧ w.1 15 k ≤ 60 at hL
  have hG := hO 1 3
  change 0 ≤ w.1 1 3 ∧ w.1 1 3 ≤ 6 at hG
  have hDs := hO 1 2
  change 0 ≤ w.1 1 2 ∧ w.1 1 2 ≤ 4 at hDs
  refine r_aload_n 0 0 dC_may_0 rfl rfl ?_
  refine r_iconst dC_may_1 ?_
  refine r_putI (k := 7) fX6 rfl rfl (by decide) kw_194 rfl rfl (by decide +kernel) 7 rfl dC_may_2 rfl (by omega) (by omega) (fun w_2 ew_2 => ?_)
  have hz2 : ∀ i k, i ≠ 0 → w_2.1 i k = w.1 i k := fun i k q => by rw [ew_2, zput_i _ _ _ _ q]
  have hq2 : zEq w w_2 := by rw [ew_2]; exact (zEq.refl w).put (by decide)
  have hs2 : ∀ q, zSz w_2 q = zSz w q := fun q => by unfold zSz; rw [hz2 13 q (by decide), hz2 15 q (by decide)]
  have hr2 : (fun j => w_2.1 (16 + k.toNat) (i + j)) = (fun j => w.1 (16 + k.toNat) (i + j)) := funext fun j => hz2 _ _ (by omega)
  refine r_aload_n 0 0 dC_may_5 rfl rfl ?_
  refine r_iload_n 1 1 dC_may_6 rfl rfl ?_
  refine r_iload_n 2 2 dC_may_7 rfl rfl ?_
  refine r_iload_n 3 3 dC_may_8 rfl rfl ?_
  refine r_iload 4 4 dC_may_9 rfl ?_
  refine r_iload 5 5 dC_may_11 rfl ?_
  refine r_cVI (cC_refusedSeason w_2 k lane i n v (by omega) (by omega) (by omega) (by omega) (by omega)) qC_refusedSeason rfl kw_335 rfl rfl dC_may_13 (st0 := [zI v, zI n, zI i, zI lane, zI k, zR 0]) (st := []) rfl ⟨Nat.le_of_ble_eq_true rfl, Nat.le_of_ble_eq_true rfl⟩ ⟨Nat.le_of_ble_eq_true rfl, Nat.le_of_ble_eq_true rfl⟩ (Nat.le_of_ble_eq_true rfl) (fun a_13 w_13 h_13 ok_13 => ?_)
  have hfp := fPairs_in (gs := w.1 1 3) (ds := w.1 1 2) (sz := zSz w k) (ln := w.1 14 k) (lane := lane) (i := i) (n := n) (row := fun j => w.1 (16 + k.toNat) (i + j))
  rw [hs2, hr2, hz2 14 k (by decide), hz2 1 3 (by decide), hz2 1 2 (by decide)] at h_13
  have hqr : zEq w w_13 := by
    rcases h_13.2 with ⟨_, ⟨f9, q⟩ | q⟩ | ⟨_, q, _⟩
    · rw [q]; exact hq2.put (by decide)
    · rw [q]; exact hq2
    · rw [q]; exact hq2
  refine r_istore (ls' := [(6, zI a_13), (0, zR 0), (1, zI k), (2, zI lane), (3, zI i), (4, zI n), (5, zI v)]) 6 dC_may_16 (by decide) rfl ?_
  refine r_iload 6 0 dC_may_18 rfl ?_
  refine r_if_eq 26 dC_may_20 (by decide) ⟨by omega, by omega⟩ (fun c_20 => ?_) (fun c_20 => ?_)
  · rcases h_13.2 with q | ⟨_, hw9, k0, k1, n0, n1, v0, v1, g0, i0, i1, hv⟩
    exact absurd q.1 (by omega)
    subst hw9
    rw [hz2 15 k (by decide)] at i1
    have hv9 : ∀ wl : zW, (∀ i k, i ≠ 4 → wl.1 i k = w_13.1 i k) → ∀ p : Int, 0 ≤ p → p < n → 0 ≤ wl.1 (16 + k.toNat) (i + 2 * p) ∧ wl.1 (16 + k.toNat) (i + 2 * p) < 6 ∧ 0 ≤ wl.1 (16 + k.toNat) (i + 2 * p + 1) ∧ wl.1 (16 + k.toNat) (i + 2 * p + 1) < 4 := fun wl hl p p0 p1 => by
      have q := hv p p0 p1
      rw [hl _ _ (by omega), hl _ _ (by omega)]
      omega
    have hse : ∀ wl : zW, (∀ i k, i ≠ 4 → wl.1 i k = w_13.1 i k) → ∀ g, zSeaC wl (16 + k.toNat) i g n.toNat = zSeaC w (16 + k.toNat) i g n.toNat := fun wl hl g => zSeaC_eq (fun i2 k2 q1 q2 => by rw [hl i2 k2 q2]; exact hz2 i2 k2 q1) (by omega) i g n.toNat
    refine r_aload_n 0 1 dC_may_26 rfl rfl ?_
    refine r_getR (k := 1) (b := 2) fX6 rfl rfl rfl (by decide) kw_188 rfl dC_may_27 ?_
    refine r_getRN (k := 0) (b := 12) fX4 rfl rfl rfl (by decide) kw_77 rfl dC_may_30 ?_
    refine r_iload_n 1 2 dC_may_33 rfl rfl ?_
    refine r_aaload (b := (16 + k.toNat)) rfl (by decide) dC_may_34 (by omega) (by omega) (z_row _ (by omega) (by omega)) ?_
    refine r_astore (ls' := [(7, zR (16 + k.toNat)), (6, zI a_13), (0, zR 0), (1, zI k), (2, zI lane), (3, zI i), (4, zI n), (5, zI v)]) 7 dC_may_35 (by decide) rfl ?_
    refine r_iconst dC_may_37 ?_
    refine r_istore (ls' := [(8, zI 0), (7, zR (16 + k.toNat)), (6, zI a_13), (0, zR 0), (1, zI k), (2, zI lane), (3, zI i), (4, zI n), (5, zI v)]) 8 dC_may_38 (by decide) rfl ?_
    refine r_iconst dC_may_40 ?_
    refine r_istore (ls' := [(9, zI 0), (8, zI 0), (7, zR (16 + k.toNat)), (6, zI a_13), (0, zR 0), (1, zI k), (2, zI lane), (3, zI i), (4, zI n), (5, zI v)]) 9 dC_may_41 (by decide) rfl ?_
    have L_43 : ∀ (n_43 : Nat) (set : Int) (g : Int) (wl : zW) (hg0 : 0 ≤ g) (hg1 : g ≤ w.1 1 3) (hw : ∀ i k, i ≠ 4 → wl.1 i k = w_13.1 i k) (hn9 : 0 < g → (zSeaC w (16 + k.toNat) i 0 n.toNat).2.1 = -9) (hs : set = zSet (fun g => decide ((zSeaC w (16 + k.toNat) i g n.toNat).1 = v)) g.toNat), w.1 1 3 - g < (n_43 : Int) → zM mC_may (zZm 4 (zrI fun a w' => a = (if ¬ (if k < 0 ∨ 4 ≤ k then -1 else if lane < 0 ∨ 2 < lane ∨ n < 0 ∨ 20 < n ∨ v < 0 ∨ 5 < v then -2 else if w.1 1 3 = 0 then -3 else fPairs (w.1 1 3) (w.1 1 2) (zSz w k) (w.1 14 k) lane i n (fun j => w.1 (16 + k.toNat) (i + j))) = 0 then (if k < 0 ∨ 4 ≤ k then -1 else if lane < 0 ∨ 2 < lane ∨ n < 0 ∨ 20 < n ∨ v < 0 ∨ 5 < v then -2 else if w.1 1 3 = 0 then -3 else fPairs (w.1 1 3) (w.1 1 2) (zSz w k) (w.1 14 k) lane i n (fun j => w.1 (16 + k.toNat) (i + j))) else if ¬ (zSeaC w (16 + k.toNat) i 0 n.toNat).2.1 = -9 then -100 - (zSeaC w (16 + k.toNat) i 0 n.toNat).2.1 else zSet (fun g => decide ((zSeaC w (16 + k.toNat) i g n.toNat).1 = v)) (w.1 1 3).toNat) ∧ zEq w w')) 43 [(9, zI g), (8, zI set), (7, zR (16 + k.toNat)), (6, zI a_13), (0, zR 0), (1, zI k), (2, zI lane), (3, zI i), (4, zI n), (5, zI v)] [] wl := by
      intro n_43
      induction n_43 with
      | zero => intro set g wl hg0 hg1 hw hn9 hs hm_43; exfalso; omega
      | succ n_43 ih_43 =>
        intro set g wl hg0 hg1 hw hn9 hs hm_43
        have e13 : wl.1 1 3 = w.1 1 3 := (hw 1 3 (by decide)).trans (hz2 1 3 (by decide))
        refine r_iload 9 0 dC_may_43 rfl ?_
        refine r_aload_n 0 4 dC_may_45 rfl rfl ?_
        refine r_getR (k := 0) (b := 1) fX6 rfl rfl rfl (by decide) kw_187 rfl dC_may_46 ?_
        refine r_getIN (k := 3) fX0 rfl rfl (by decide) kw_35 rfl 3 rfl dC_may_49 rfl (fun y_49 ey_49 ly_49 uy_49 => ?_)
        refine r_ic_ge 123 dC_may_52 (by decide) ⟨by omega, by omega⟩ ⟨by omega, by omega⟩ (fun c_52 => ?_) (fun c_52 => ?_)
        · refine r_iload 8 1 dC_may_123 rfl ?_
          refine r_iret rfl dC_may_125 ⟨_, rfl, ?_⟩
          exact ⟨by have := h_13.1; rw [if_neg (by omega), if_neg (fun q => q (hn9 (by omega))), show (w.1 1 3).toNat = g.toNat by omega]; exact hs, hqr.out 4 zkeep_4 hw⟩
        · refine r_aload_n 0 4 dC_may_55 rfl rfl ?_
          refine r_getR (k := 3) (b := 4) fX6 rfl rfl rfl (by decide) kw_190 rfl dC_may_56 ?_
          refine r_aload_n 0 4 dC_may_59 rfl rfl ?_
          refine r_getR (k := 0) (b := 1) fX6 rfl rfl rfl (by decide) kw_187 rfl dC_may_60 ?_
          refine r_aload 7 2 dC_may_63 rfl ?_
          refine r_iload_n 3 7 dC_may_65 rfl rfl ?_
          refine r_iload 4 8 dC_may_66 rfl ?_
          refine r_iload 9 0 dC_may_68 rfl ?_
          refine r_cVVN (cO_live wl (16 + k.toNat) i n g (z_rowS (by omega) (by omega)) (fun q => z_rowB (by omega) (by omega) q) (by omega) (by omega) (by omega) (by omega) (by omega) ⟨by omega, by omega⟩ (hv9 _ hw)) qO_live rfl kw_321 rfl rfl dC_may_70 (st0 := [zI g, zI n, zI i, zR (16 + k.toNat), zR 1, zR 4]) (st := []) rfl ⟨Nat.le_of_ble_eq_true rfl, Nat.le_of_ble_eq_true rfl⟩ ⟨Nat.le_of_ble_eq_true rfl, Nat.le_of_ble_eq_true rfl⟩ (Nat.le_of_ble_eq_true rfl) (fun w_70 h_70 ok_70 => ?_)
          have hst := h_70.2
          rw [hse _ hw] at hst
          have hwn : ∀ i k, i ≠ 4 → w_70.1 i k = w_13.1 i k := fun i k q => by rw [h_70.1 i k q]; exact hw i k q
          have hwr := zSea_wr (st0 := w.1 1 0) (strict := w.1 1 1) (cost := fun d => w.1 8 d) (pl := fun g d => zPC w g d) (row := fun j => w.1 (16 + k.toNat) (i + j)) g 0 n.toNat
          change (zSeaC w (16 + k.toNat) i g n.toNat).2.1 = (zSeaC w (16 + k.toNat) i 0 n.toNat).2.1 ∧ _ at hwr
          rw [hst] at hwr
          have hw1 : w_70.1 4 1 = (zSeaC w (16 + k.toNat) i 0 n.toNat).2.1 := hwr.1
          refine r_aload_n 0 4 dC_may_73 rfl rfl ?_
          refine r_getR (k := 3) (b := 4) fX6 rfl rfl rfl (by decide) kw_190 rfl dC_may_74 ?_
          refine r_getIN (k := 1) fX2 rfl rfl (by decide) kw_130 rfl 1 rfl dC_may_77 rfl (fun y_77 ey_77 ly_77 uy_77 => ?_)
          refine r_bipush dC_may_80 (by decide) ?_
          refine r_ic_eq 96 dC_may_82 (by decide) ⟨by omega, by omega⟩ ⟨by omega, by omega⟩ (fun c_82 => ?_) (fun c_82 => ?_)
          · refine r_aload_n 0 4 dC_may_96 rfl rfl ?_
            refine r_getR (k := 3) (b := 4) fX6 rfl rfl rfl (by decide) kw_190 rfl dC_may_97 ?_
            refine r_getIN (k := 0) fX2 rfl rfl (by decide) kw_128 rfl 0 rfl dC_may_100 rfl (fun y_100 ey_100 ly_100 uy_100 => ?_)
            refine r_iload 5 9 dC_may_103 rfl ?_
            refine r_ic_ne 117 dC_may_105 (by decide) ⟨by omega, by omega⟩ ⟨by omega, by omega⟩ (fun c_105 => ?_) (fun c_105 => ?_)
            · refine r_iinc (ls' := [(9, zI (g + 1)), (8, zI set), (7, zR (16 + k.toNat)), (6, zI a_13), (0, zR 0), (1, zI k), (2, zI lane), (3, zI i), (4, zI n), (5, zI v)]) 9 0 dC_may_117 rfl (by decide) rfl ?_
              refine r_goto 43 dC_may_120 (by decide) ?_
              exact ih_43 set (g + 1) w_70 (by omega) (by omega) (fun i k q => hwn i k q) (fun _ => by omega) (by rw [zSet_s _ hg0, hst]; show _ = if decide (w_70.1 4 0 = v) = true then _ else _; first | (rw [if_pos (decide_eq_true (by omega)), ← hs]; assumption) | (rw [if_neg (by rw [decide_eq_true_eq]; omega)]; exact hs)) (by omega)
            · refine r_iload 8 1 dC_may_108 rfl ?_
              refine r_iconst dC_may_110 ?_
              refine r_iload 9 0 dC_may_111 rfl ?_
              refine r_ishl dC_may_113 ?_
              refine r_ior dC_may_114 ?_
              refine r_nmI (fun x_115 ex_115 => ?_)
              refine r_istore (ls' := [(8, zI x_115), (9, zI g), (7, zR (16 + k.toNat)), (6, zI a_13), (0, zR 0), (1, zI k), (2, zI lane), (3, zI i), (4, zI n), (5, zI v)]) 8 dC_may_115 (by decide) rfl ?_
              refine r_iinc (ls' := [(9, zI (g + 1)), (8, zI x_115), (7, zR (16 + k.toNat)), (6, zI a_13), (0, zR 0), (1, zI k), (2, zI lane), (3, zI i), (4, zI n), (5, zI v)]) 9 1 dC_may_117 rfl (by decide) rfl ?_
              refine r_goto 43 dC_may_120 (by decide) ?_
              exact ih_43 x_115 (g + 1) w_70 (by omega) (by omega) (fun i k q => hwn i k q) (fun _ => by omega) (by rw [zSet_s _ hg0, hst]; show _ = if decide (w_70.1 4 0 = v) = true then _ else _; first | (rw [if_pos (decide_eq_true (by omega)), ← hs]; assumption) | (rw [if_neg (by rw [decide_eq_true_eq]; omega)]; exact hs)) (by omega)
          · refine r_bipush dC_may_85 (by decide) ?_
            refine r_aload_n 0 4 dC_may_87 rfl rfl ?_
            refine r_getR (k := 3) (b := 4) fX6 rfl rfl rfl (by decide) kw_190 rfl dC_may_88 ?_
            refine r_getIN (k := 1) fX2 rfl rfl (by decide) kw_130 rfl 1 rfl dC_may_91 rfl (fun y_91 ey_91 ly_91 uy_91 => ?_)
            refine r_isub dC_may_94 ?_
            refine r_iret rfl dC_may_95 ⟨_, rfl, ?_⟩
            exact ⟨by have := h_13.1; rw [if_neg (by omega), if_pos (show ¬ (zSeaC w (16 + k.toNat) i 0 n.toNat).2.1 = -9 by omega)]; have := hwr.1; omega, hqr.out 4 zkeep_4 hwn⟩
    exact L_43 7 0 0 w_13 (by omega) (by omega) (fun _ _ _ => rfl) (fun q => absurd q (by decide)) rfl (by omega)
  · refine r_iload 6 0 dC_may_23 rfl ?_
    refine r_iret rfl dC_may_25 ⟨_, rfl, ?_⟩
    exact ⟨by rw [if_pos (show ¬ _ = (0 : Int) by have := h_13.1; omega)]; exact h_13.1, hqr⟩
