/-! THE CONSTRUCTORS of the nest and of the reference: fresh rows of noughts -/
theorem zRA_int {U : State} {a b : ClassId} (h1 : va_RA U a .int) (h2 : va_RA U b .int) : a = b := Option.some.inj (Eq.trans (Eq.symm (show U.vm.findClass _ = some a from h1)) (show U.vm.findClass _ = some b from h2))
theorem zRA_bool {U : State} {a b : ClassId} (h1 : va_RA U a .boolean) (h2 : va_RA U b .boolean) : a = b := Option.some.inj (Eq.trans (Eq.symm (show U.vm.findClass _ = some a from h1)) (show U.vm.findClass _ = some b from h2))
def zz0 (n : Nat) : vp_A := (n, .inl (fun _ => 0))
set_option maxHeartbeats 4000000 in
set_option maxRecDepth 100000 in
theorem cc_H (l : Launch) (D : va_G) (h0 sz : Nat) : Met l mH_init.1 (zWM mH_init) ({ frames := 1, cells := 5, slots := 26, locals := 12 } : Room) (va_Pc [.ref h0] (fun U => U.heap.size = sz ∧ va_P D zCl [(h0, .inr (0, [.int 0, .int 0, .int 0, .int 0, .null, .null, .null, .null, .null]))] U.heap ∧ va_K D zCl [] U ∧ va_D (fun _ => True) [(h0, .inr (0, [.int 0, .int 0, .int 0, .int 0, .null, .null, .null, .null, .null]))])) (va_Qv (fun _ : Unit => True) (fun _ U => ∃ (q6 : Nat) (q13 : Nat) (q21 : Nat) (q29 : Nat) (q37 : Nat) (c37 : ClassId), va_P D zCl [(h0, .inr (0, [.int 0, .int 0, .int 0, .int 0, .ref q6, .ref q13, .ref q21, .ref q29, .ref q37])), (q6, .inl (c37, zz0 4)), (q13, .inl (c37, zz0 4)), (q21, .inl (c37, zz0 6)), (q29, .inl (c37, zz0 6)), (q37, .inl (c37, zz0 6))] U.heap ∧ va_K D zCl [(c37, .int)] U ∧ va_D (va_A [(h0, .inr (0, [.int 0, .int 0, .int 0, .int 0, .null, .null, .null, .null, .null]))] sz) [(h0, .inr (0, [.int 0, .int 0, .int 0, .int 0, .ref q6, .ref q13, .ref q21, .ref q29, .ref q37])), (q6, .inl (c37, zz0 4)), (q13, .inl (c37, zz0 4)), (q21, .inl (c37, zz0 6)), (q29, .inl (c37, zz0 6)), (q37, .inl (c37, zz0 6))]) (va_A [(h0, .inr (0, [.int 0, .int 0, .int 0, .int 0, .null, .null, .null, .null, .null]))] sz)) 5 26 (va_A [(h0, .inr (0, [.int 0, .int 0, .int 0, .int 0, .null, .null, .null, .null, .null]))] sz) := by
  refine Met.ofW (cc := mH_init.2.1) (maxL := 1) (ret := none) (by decide +kernel) rfl ?_
  intro p e s m args below meth c s₁ B hml hv
  obtain ⟨rfl, hsz, hP, hK, hD0⟩ := hv
  have hx := B.exec
  have hb := B.bytes
  have hr := B.returns
  have hts0 := atoms_spec (ws := zWM mH_init) B.pre
  have hts : ∀ w ∈ zWs, w.before _ s = true := fun w hw => hts0 w (List.mem_cons_of_mem _ hw)
  have hown : s.vm.findClass RX0 = some m.cls := findClass_of_methodNamed B.named
  have hin : meth.name = "<init>" := (name_of_methodNamed B.named B.method).1
  subst hsz
  have hD := hD0.self (sz := s.heap.size)
  generalize hAe : va_A [(h0, .inr (0, [.int 0, .int 0, .int 0, .int 0, .null, .null, .null, .null, .null]))] s.heap.size = A at hD ⊢
  have hA : ∀ q : Nat, s.heap.size ≤ q → A q := fun q h => by rw [← hAe]; exact Or.inr h
  have hS : va_S A s.heap s.heap [] := va_S.rf
  have hP : va_P D zCl [(h0, .inr (0, [.int 0, .int 0, .int 0, .int 0, .null, .null, .null, .null, .null]))] s.heap := hP
  have hl := lv_entry ([.ref h0]) (n := 1) (Nat.le_of_ble_eq_true rfl)
  rw [lg_entry_eq]
  generalize (lg_sl ([.ref h0]) ++ List.replicate (1 - (lg_sl ([.ref h0])).length) Slot.unset).toArray = ls at hl ⊢
  have hl : lv_has ls 1 [(0, .ref h0)] := hl
  refine lv_aload_n hx hb dH_init_0 rfl (lv_at hl 0 rfl) ?_
  refine W.objInit hx hb hown (hts _ kw_24) (hts _ kw_17) (hts _ kw_18) rfl (by rw [hml]; exact hl.1) rfl dH_init_1 (Nat.le_of_ble_eq_true rfl) (Nat.le_of_ble_eq_true rfl) ?_
  refine W.eq (g2 := F0 m 4 ls []) rfl ?_
  refine lv_aload_n hx hb dH_init_4 rfl (lv_at hl 0 rfl) ?_
  refine lv_iconst (v := 4) hx hb dH_init_5 (by decide) ?_
  refine va_newa (atype := .int) (ty := .int) (N' := 4) (a0 := zz0 4) hx hb (hts _ kw_67) rfl hK hP hD hS hA (fun _ => rfl) (by decide) (by decide) (Nat.le_of_ble_eq_true rfl) (Nat.le_of_ble_eq_true rfl) (Nat.le_of_ble_eq_true rfl) dH_init_6 (fun q6 c6 H hK hP hD hS => ?_)
  have hK : va_K D zCl [(c6, .int)] s := hK
  have hP : va_P D zCl [(h0, .inr (0, [.int 0, .int 0, .int 0, .int 0, .null, .null, .null, .null, .null])), (q6, .inl (c6, zz0 4))] H := hP
  have hD : va_D A [(h0, .inr (0, [.int 0, .int 0, .int 0, .int 0, .null, .null, .null, .null, .null])), (q6, .inl (c6, zz0 4))] := hD
  refine va_putF (D := D) (ci := 0) (v := .ref q6) (ty := .array .int) (C := RX0) (T := TX0) (N := 9) (ref := RX0) hx hb hts iX0 tyX0 tyX0_ok nmX0 hown hK hP hD hS 0 rfl rfl 4 (by decide) (hts _ kw_36) (fun _ h9 => h9) rfl hin rfl (by decide +kernel) rfl rfl (Nat.le_of_ble_eq_true rfl) dH_init_8 (fun H locs hP hD hS => ?_)
  have hP : va_P D zCl [(h0, .inr (0, [.int 0, .int 0, .int 0, .int 0, .ref q6, .null, .null, .null, .null])), (q6, .inl (c6, zz0 4))] H := hP
  have hD : va_D A [(h0, .inr (0, [.int 0, .int 0, .int 0, .int 0, .ref q6, .null, .null, .null, .null])), (q6, .inl (c6, zz0 4))] := hD
  refine lv_aload_n hx hb dH_init_11 rfl (lv_at hl 0 rfl) ?_
  refine lv_iconst (v := 4) hx hb dH_init_12 (by decide) ?_
  refine va_newa (atype := .int) (ty := .int) (N' := 4) (a0 := zz0 4) hx hb (hts _ kw_67) rfl hK hP hD hS hA (fun _ => rfl) (by decide) (by decide) (Nat.le_of_ble_eq_true rfl) (Nat.le_of_ble_eq_true rfl) (Nat.le_of_ble_eq_true rfl) dH_init_13 (fun q13 c13 H hK hP hD hS => ?_)
  obtain rfl : c13 = c6 := zRA_int (hK.2 1 _ rfl).2 (hK.2 0 _ rfl).2
  have hK := hK.sub (tys' := [(c13, .int)]) [0] rfl
  have hP : va_P D zCl [(h0, .inr (0, [.int 0, .int 0, .int 0, .int 0, .ref q6, .null, .null, .null, .null])), (q6, .inl (c13, zz0 4)), (q13, .inl (c13, zz0 4))] H := hP
  have hD : va_D A [(h0, .inr (0, [.int 0, .int 0, .int 0, .int 0, .ref q6, .null, .null, .null, .null])), (q6, .inl (c13, zz0 4)), (q13, .inl (c13, zz0 4))] := hD
  refine va_putF (D := D) (ci := 0) (v := .ref q13) (ty := .array .int) (C := RX0) (T := TX0) (N := 9) (ref := RX0) hx hb hts iX0 tyX0 tyX0_ok nmX0 hown hK hP hD hS 0 rfl rfl 5 (by decide) (hts _ kw_38) (fun _ h9 => h9) rfl hin rfl (by decide +kernel) rfl rfl (Nat.le_of_ble_eq_true rfl) dH_init_15 (fun H locs hP hD hS => ?_)
  have hP : va_P D zCl [(h0, .inr (0, [.int 0, .int 0, .int 0, .int 0, .ref q6, .ref q13, .null, .null, .null])), (q6, .inl (c13, zz0 4)), (q13, .inl (c13, zz0 4))] H := hP
  have hD : va_D A [(h0, .inr (0, [.int 0, .int 0, .int 0, .int 0, .ref q6, .ref q13, .null, .null, .null])), (q6, .inl (c13, zz0 4)), (q13, .inl (c13, zz0 4))] := hD
  refine lv_aload_n hx hb dH_init_18 rfl (lv_at hl 0 rfl) ?_
  refine lv_bipush (v := 6) hx hb dH_init_19 (by decide) ?_
  refine va_newa (atype := .int) (ty := .int) (N' := 6) (a0 := zz0 6) hx hb (hts _ kw_67) rfl hK hP hD hS hA (fun _ => rfl) (by decide) (by decide) (Nat.le_of_ble_eq_true rfl) (Nat.le_of_ble_eq_true rfl) (Nat.le_of_ble_eq_true rfl) dH_init_21 (fun q21 c21 H hK hP hD hS => ?_)
  obtain rfl : c21 = c13 := zRA_int (hK.2 1 _ rfl).2 (hK.2 0 _ rfl).2
  have hK := hK.sub (tys' := [(c21, .int)]) [0] rfl
  have hP : va_P D zCl [(h0, .inr (0, [.int 0, .int 0, .int 0, .int 0, .ref q6, .ref q13, .null, .null, .null])), (q6, .inl (c21, zz0 4)), (q13, .inl (c21, zz0 4)), (q21, .inl (c21, zz0 6))] H := hP
  have hD : va_D A [(h0, .inr (0, [.int 0, .int 0, .int 0, .int 0, .ref q6, .ref q13, .null, .null, .null])), (q6, .inl (c21, zz0 4)), (q13, .inl (c21, zz0 4)), (q21, .inl (c21, zz0 6))] := hD
  refine va_putF (D := D) (ci := 0) (v := .ref q21) (ty := .array .int) (C := RX0) (T := TX0) (N := 9) (ref := RX0) hx hb hts iX0 tyX0 tyX0_ok nmX0 hown hK hP hD hS 0 rfl rfl 6 (by decide) (hts _ kw_42) (fun _ h9 => h9) rfl hin rfl (by decide +kernel) rfl rfl (Nat.le_of_ble_eq_true rfl) dH_init_23 (fun H locs hP hD hS => ?_)
  have hP : va_P D zCl [(h0, .inr (0, [.int 0, .int 0, .int 0, .int 0, .ref q6, .ref q13, .ref q21, .null, .null])), (q6, .inl (c21, zz0 4)), (q13, .inl (c21, zz0 4)), (q21, .inl (c21, zz0 6))] H := hP
  have hD : va_D A [(h0, .inr (0, [.int 0, .int 0, .int 0, .int 0, .ref q6, .ref q13, .ref q21, .null, .null])), (q6, .inl (c21, zz0 4)), (q13, .inl (c21, zz0 4)), (q21, .inl (c21, zz0 6))] := hD
  refine lv_aload_n hx hb dH_init_26 rfl (lv_at hl 0 rfl) ?_
  refine lv_bipush (v := 6) hx hb dH_init_27 (by decide) ?_
  refine va_newa (atype := .int) (ty := .int) (N' := 6) (a0 := zz0 6) hx hb (hts _ kw_67) rfl hK hP hD hS hA (fun _ => rfl) (by decide) (by decide) (Nat.le_of_ble_eq_true rfl) (Nat.le_of_ble_eq_true rfl) (Nat.le_of_ble_eq_true rfl) dH_init_29 (fun q29 c29 H hK hP hD hS => ?_)
  obtain rfl : c29 = c21 := zRA_int (hK.2 1 _ rfl).2 (hK.2 0 _ rfl).2
  have hK := hK.sub (tys' := [(c29, .int)]) [0] rfl
  have hP : va_P D zCl [(h0, .inr (0, [.int 0, .int 0, .int 0, .int 0, .ref q6, .ref q13, .ref q21, .null, .null])), (q6, .inl (c29, zz0 4)), (q13, .inl (c29, zz0 4)), (q21, .inl (c29, zz0 6)), (q29, .inl (c29, zz0 6))] H := hP
  have hD : va_D A [(h0, .inr (0, [.int 0, .int 0, .int 0, .int 0, .ref q6, .ref q13, .ref q21, .null, .null])), (q6, .inl (c29, zz0 4)), (q13, .inl (c29, zz0 4)), (q21, .inl (c29, zz0 6)), (q29, .inl (c29, zz0 6))] := hD
  refine va_putF (D := D) (ci := 0) (v := .ref q29) (ty := .array .int) (C := RX0) (T := TX0) (N := 9) (ref := RX0) hx hb hts iX0 tyX0 tyX0_ok nmX0 hown hK hP hD hS 0 rfl rfl 7 (by decide) (hts _ kw_44) (fun _ h9 => h9) rfl hin rfl (by decide +kernel) rfl rfl (Nat.le_of_ble_eq_true rfl) dH_init_31 (fun H locs hP hD hS => ?_)
  have hP : va_P D zCl [(h0, .inr (0, [.int 0, .int 0, .int 0, .int 0, .ref q6, .ref q13, .ref q21, .ref q29, .null])), (q6, .inl (c29, zz0 4)), (q13, .inl (c29, zz0 4)), (q21, .inl (c29, zz0 6)), (q29, .inl (c29, zz0 6))] H := hP
  have hD : va_D A [(h0, .inr (0, [.int 0, .int 0, .int 0, .int 0, .ref q6, .ref q13, .ref q21, .ref q29, .null])), (q6, .inl (c29, zz0 4)), (q13, .inl (c29, zz0 4)), (q21, .inl (c29, zz0 6)), (q29, .inl (c29, zz0 6))] := hD
  refine lv_aload_n hx hb dH_init_34 rfl (lv_at hl 0 rfl) ?_
  refine lv_bipush (v := 6) hx hb dH_init_35 (by decide) ?_
  refine va_newa (atype := .int) (ty := .int) (N' := 6) (a0 := zz0 6) hx hb (hts _ kw_67) rfl hK hP hD hS hA (fun _ => rfl) (by decide) (by decide) (Nat.le_of_ble_eq_true rfl) (Nat.le_of_ble_eq_true rfl) (Nat.le_of_ble_eq_true rfl) dH_init_37 (fun q37 c37 H hK hP hD hS => ?_)
  obtain rfl : c37 = c29 := zRA_int (hK.2 1 _ rfl).2 (hK.2 0 _ rfl).2
  have hK := hK.sub (tys' := [(c37, .int)]) [0] rfl
  have hP : va_P D zCl [(h0, .inr (0, [.int 0, .int 0, .int 0, .int 0, .ref q6, .ref q13, .ref q21, .ref q29, .null])), (q6, .inl (c37, zz0 4)), (q13, .inl (c37, zz0 4)), (q21, .inl (c37, zz0 6)), (q29, .inl (c37, zz0 6)), (q37, .inl (c37, zz0 6))] H := hP
  have hD : va_D A [(h0, .inr (0, [.int 0, .int 0, .int 0, .int 0, .ref q6, .ref q13, .ref q21, .ref q29, .null])), (q6, .inl (c37, zz0 4)), (q13, .inl (c37, zz0 4)), (q21, .inl (c37, zz0 6)), (q29, .inl (c37, zz0 6)), (q37, .inl (c37, zz0 6))] := hD
  refine va_putF (D := D) (ci := 0) (v := .ref q37) (ty := .array .int) (C := RX0) (T := TX0) (N := 9) (ref := RX0) hx hb hts iX0 tyX0 tyX0_ok nmX0 hown hK hP hD hS 0 rfl rfl 8 (by decide) (hts _ kw_46) (fun _ h9 => h9) rfl hin rfl (by decide +kernel) rfl rfl (Nat.le_of_ble_eq_true rfl) dH_init_39 (fun H locs hP hD hS => ?_)
  have hP : va_P D zCl [(h0, .inr (0, [.int 0, .int 0, .int 0, .int 0, .ref q6, .ref q13, .ref q21, .ref q29, .ref q37])), (q6, .inl (c37, zz0 4)), (q13, .inl (c37, zz0 4)), (q21, .inl (c37, zz0 6)), (q29, .inl (c37, zz0 6)), (q37, .inl (c37, zz0 6))] H := hP
  have hD : va_D A [(h0, .inr (0, [.int 0, .int 0, .int 0, .int 0, .ref q6, .ref q13, .ref q21, .ref q29, .ref q37])), (q6, .inl (c37, zz0 4)), (q13, .inl (c37, zz0 4)), (q21, .inl (c37, zz0 6)), (q29, .inl (c37, zz0 6)), (q37, .inl (c37, zz0 6))] := hD
  exact W.vret hx hb hr (fun t ht hW => ⟨⟨(), rfl, trivial, q6, q13, q21, q29, q37, c37, by rw [ht]; exact hP, va_K.moved hW.alike hK, hD⟩, hS.F ht⟩) hS.2.2 dH_init_42
set_option maxHeartbeats 4000000 in
set_option maxRecDepth 100000 in
theorem cc_T (l : Launch) (D : va_G) (h0 sz : Nat) : Met l mT_init.1 (zWM mT_init) ({ frames := 1, cells := 1, slots := 0, locals := 12 } : Room) (va_Pc [.ref h0] (fun U => U.heap.size = sz ∧ va_P D zCl [(h0, .inr (5, [.null, .int 0, .int 0, .int 0, .int 0, .int 0]))] U.heap ∧ va_K D zCl [] U ∧ va_D (fun _ => True) [(h0, .inr (5, [.null, .int 0, .int 0, .int 0, .int 0, .int 0]))])) (va_Qv (fun _ : Unit => True) (fun _ U => ∃ (q6 : Nat) (c6 : ClassId), va_P D zCl [(h0, .inr (5, [.ref q6, .int 0, .int 0, .int 0, .int 0, .int 0])), (q6, .inl (c6, zz0 0))] U.heap ∧ va_K D zCl [(c6, .int)] U ∧ va_D (va_A [(h0, .inr (5, [.null, .int 0, .int 0, .int 0, .int 0, .int 0]))] sz) [(h0, .inr (5, [.ref q6, .int 0, .int 0, .int 0, .int 0, .int 0])), (q6, .inl (c6, zz0 0))]) (va_A [(h0, .inr (5, [.null, .int 0, .int 0, .int 0, .int 0, .int 0]))] sz)) 1 0 (va_A [(h0, .inr (5, [.null, .int 0, .int 0, .int 0, .int 0, .int 0]))] sz) := by
  refine Met.ofW (cc := mT_init.2.1) (maxL := 1) (ret := none) (by decide +kernel) rfl ?_
  intro p e s m args below meth c s₁ B hml hv
  obtain ⟨rfl, hsz, hP, hK, hD0⟩ := hv
  have hx := B.exec
  have hb := B.bytes
  have hr := B.returns
  have hts0 := atoms_spec (ws := zWM mT_init) B.pre
  have hts : ∀ w ∈ zWs, w.before _ s = true := fun w hw => hts0 w (List.mem_cons_of_mem _ hw)
  have hown : s.vm.findClass RX5 = some m.cls := findClass_of_methodNamed B.named
  have hin : meth.name = "<init>" := (name_of_methodNamed B.named B.method).1
  subst hsz
  have hD := hD0.self (sz := s.heap.size)
  generalize hAe : va_A [(h0, .inr (5, [.null, .int 0, .int 0, .int 0, .int 0, .int 0]))] s.heap.size = A at hD ⊢
  have hA : ∀ q : Nat, s.heap.size ≤ q → A q := fun q h => by rw [← hAe]; exact Or.inr h
  have hS : va_S A s.heap s.heap [] := va_S.rf
  have hP : va_P D zCl [(h0, .inr (5, [.null, .int 0, .int 0, .int 0, .int 0, .int 0]))] s.heap := hP
  have hl := lv_entry ([.ref h0]) (n := 1) (Nat.le_of_ble_eq_true rfl)
  rw [lg_entry_eq]
  generalize (lg_sl ([.ref h0]) ++ List.replicate (1 - (lg_sl ([.ref h0])).length) Slot.unset).toArray = ls at hl ⊢
  have hl : lv_has ls 1 [(0, .ref h0)] := hl
  refine lv_aload_n hx hb dT_init_0 rfl (lv_at hl 0 rfl) ?_
  refine W.objInit hx hb hown (hts _ kw_98) (hts _ kw_17) (hts _ kw_18) rfl (by rw [hml]; exact hl.1) rfl dT_init_1 (Nat.le_of_ble_eq_true rfl) (Nat.le_of_ble_eq_true rfl) ?_
  refine W.eq (g2 := F0 m 4 ls []) rfl ?_
  refine lv_aload_n hx hb dT_init_4 rfl (lv_at hl 0 rfl) ?_
  refine lv_iconst (v := 0) hx hb dT_init_5 (by decide) ?_
  refine va_newa (atype := .int) (ty := .int) (N' := 0) (a0 := zz0 0) hx hb (hts _ kw_67) rfl hK hP hD hS hA (fun _ => rfl) (by decide) (by decide) (Nat.le_of_ble_eq_true rfl) (Nat.le_of_ble_eq_true rfl) (Nat.le_of_ble_eq_true rfl) dT_init_6 (fun q6 c6 H hK hP hD hS => ?_)
  have hK : va_K D zCl [(c6, .int)] s := hK
  have hP : va_P D zCl [(h0, .inr (5, [.null, .int 0, .int 0, .int 0, .int 0, .int 0])), (q6, .inl (c6, zz0 0))] H := hP
  have hD : va_D A [(h0, .inr (5, [.null, .int 0, .int 0, .int 0, .int 0, .int 0])), (q6, .inl (c6, zz0 0))] := hD
  refine va_put (D := D) (ci := 5) (v := .ref q6) (ty := .array .int) (C := RX5) (T := TX5) (N := 6) (ref := RX5) hx hb hts iX5 tyX5 tyX5_ok nmX5 hown hK hP hD hS 0 rfl rfl 0 (by decide) (hts _ kw_99) (fun _ h9 => h9) rfl (by decide +kernel) rfl rfl (Nat.le_of_ble_eq_true rfl) dT_init_8 (fun H locs hP hD hS => ?_)
  have hP : va_P D zCl [(h0, .inr (5, [.ref q6, .int 0, .int 0, .int 0, .int 0, .int 0])), (q6, .inl (c6, zz0 0))] H := hP
  have hD : va_D A [(h0, .inr (5, [.ref q6, .int 0, .int 0, .int 0, .int 0, .int 0])), (q6, .inl (c6, zz0 0))] := hD
  exact W.vret hx hb hr (fun t ht hW => ⟨⟨(), rfl, trivial, q6, c6, by rw [ht]; exact hP, va_K.moved hW.alike hK, hD⟩, hS.F ht⟩) hS.2.2 dT_init_11
set_option maxHeartbeats 4000000 in
set_option maxRecDepth 100000 in
theorem cc_O (l : Launch) (D : va_G) (h0 sz : Nat) : Met l mO_init.1 (zWM mO_init) ({ frames := 1, cells := 0, slots := 0, locals := 12 } : Room) (va_Pc [.ref h0] (fun U => U.heap.size = sz ∧ va_P D zCl [(h0, .inr (2, [.int 0, .int 0, .int 0, .int 0, .int 0]))] U.heap ∧ va_K D zCl [] U ∧ va_D (fun _ => True) [(h0, .inr (2, [.int 0, .int 0, .int 0, .int 0, .int 0]))])) (va_Qv (fun _ : Unit => True) (fun _ U => va_P D zCl [(h0, .inr (2, [.int 0, .int 0, .int 0, .int 0, .int 0]))] U.heap ∧ va_K D zCl [] U ∧ va_D (va_A [(h0, .inr (2, [.int 0, .int 0, .int 0, .int 0, .int 0]))] sz) [(h0, .inr (2, [.int 0, .int 0, .int 0, .int 0, .int 0]))]) (va_A [(h0, .inr (2, [.int 0, .int 0, .int 0, .int 0, .int 0]))] sz)) 0 0 (va_A [(h0, .inr (2, [.int 0, .int 0, .int 0, .int 0, .int 0]))] sz) := by
  refine Met.ofW (cc := mO_init.2.1) (maxL := 1) (ret := none) (by decide +kernel) rfl ?_
  intro p e s m args below meth c s₁ B hml hv
  obtain ⟨rfl, hsz, hP, hK, hD0⟩ := hv
  have hx := B.exec
  have hb := B.bytes
  have hr := B.returns
  have hts0 := atoms_spec (ws := zWM mO_init) B.pre
  have hts : ∀ w ∈ zWs, w.before _ s = true := fun w hw => hts0 w (List.mem_cons_of_mem _ hw)
  have hown : s.vm.findClass RX2 = some m.cls := findClass_of_methodNamed B.named
  have hin : meth.name = "<init>" := (name_of_methodNamed B.named B.method).1
  subst hsz
  have hD := hD0.self (sz := s.heap.size)
  generalize hAe : va_A [(h0, .inr (2, [.int 0, .int 0, .int 0, .int 0, .int 0]))] s.heap.size = A at hD ⊢
  have hA : ∀ q : Nat, s.heap.size ≤ q → A q := fun q h => by rw [← hAe]; exact Or.inr h
  have hS : va_S A s.heap s.heap [] := va_S.rf
  have hP : va_P D zCl [(h0, .inr (2, [.int 0, .int 0, .int 0, .int 0, .int 0]))] s.heap := hP
  have hl := lv_entry ([.ref h0]) (n := 1) (Nat.le_of_ble_eq_true rfl)
  rw [lg_entry_eq]
  generalize (lg_sl ([.ref h0]) ++ List.replicate (1 - (lg_sl ([.ref h0])).length) Slot.unset).toArray = ls at hl ⊢
  have hl : lv_has ls 1 [(0, .ref h0)] := hl
  refine lv_aload_n hx hb dO_init_0 rfl (lv_at hl 0 rfl) ?_
  refine W.objInit hx hb hown (hts _ kw_126) (hts _ kw_17) (hts _ kw_18) rfl (by rw [hml]; exact hl.1) rfl dO_init_1 (Nat.le_of_ble_eq_true rfl) (Nat.le_of_ble_eq_true rfl) ?_
  refine W.eq (g2 := F0 m 4 ls []) rfl ?_
  exact W.vret hx hb hr (fun t ht hW => ⟨⟨(), rfl, trivial, by rw [ht]; exact hP, va_K.moved hW.alike hK, hD⟩, hS.F ht⟩) hS.2.2 dO_init_4
set_option maxHeartbeats 4000000 in
set_option maxRecDepth 100000 in
theorem cc_L (l : Launch) (D : va_G) (h0 sz : Nat) : Met l mL_init.1 (zWM mL_init) ({ frames := 1, cells := 3, slots := 24, locals := 12 } : Room) (va_Pc [.ref h0] (fun U => U.heap.size = sz ∧ va_P D zCl [(h0, .inr (1, [.null, .null, .null, .int 0]))] U.heap ∧ va_K D zCl [] U ∧ va_D (fun _ => True) [(h0, .inr (1, [.null, .null, .null, .int 0]))])) (va_Qv (fun _ : Unit => True) (fun _ U => ∃ (q7 : Nat) (q15 : Nat) (q23 : Nat) (c15 : ClassId) (c23 : ClassId), va_P D zCl [(h0, .inr (1, [.ref q7, .ref q15, .ref q23, .int 0])), (q7, .inl (c15, zz0 8)), (q15, .inl (c15, zz0 8)), (q23, .inl (c23, zz0 8))] U.heap ∧ va_K D zCl [(c15, .int), (c23, .boolean)] U ∧ va_D (va_A [(h0, .inr (1, [.null, .null, .null, .int 0]))] sz) [(h0, .inr (1, [.ref q7, .ref q15, .ref q23, .int 0])), (q7, .inl (c15, zz0 8)), (q15, .inl (c15, zz0 8)), (q23, .inl (c23, zz0 8))]) (va_A [(h0, .inr (1, [.null, .null, .null, .int 0]))] sz)) 3 24 (va_A [(h0, .inr (1, [.null, .null, .null, .int 0]))] sz) := by
  refine Met.ofW (cc := mL_init.2.1) (maxL := 1) (ret := none) (by decide +kernel) rfl ?_
  intro p e s m args below meth c s₁ B hml hv
  obtain ⟨rfl, hsz, hP, hK, hD0⟩ := hv
  have hx := B.exec
  have hb := B.bytes
  have hr := B.returns
  have hts0 := atoms_spec (ws := zWM mL_init) B.pre
  have hts : ∀ w ∈ zWs, w.before _ s = true := fun w hw => hts0 w (List.mem_cons_of_mem _ hw)
  have hown : s.vm.findClass RX1 = some m.cls := findClass_of_methodNamed B.named
  have hin : meth.name = "<init>" := (name_of_methodNamed B.named B.method).1
  subst hsz
  have hD := hD0.self (sz := s.heap.size)
  generalize hAe : va_A [(h0, .inr (1, [.null, .null, .null, .int 0]))] s.heap.size = A at hD ⊢
  have hA : ∀ q : Nat, s.heap.size ≤ q → A q := fun q h => by rw [← hAe]; exact Or.inr h
  have hS : va_S A s.heap s.heap [] := va_S.rf
  have hP : va_P D zCl [(h0, .inr (1, [.null, .null, .null, .int 0]))] s.heap := hP
  have hl := lv_entry ([.ref h0]) (n := 1) (Nat.le_of_ble_eq_true rfl)
  rw [lg_entry_eq]
  generalize (lg_sl ([.ref h0]) ++ List.replicate (1 - (lg_sl ([.ref h0])).length) Slot.unset).toArray = ls at hl ⊢
  have hl : lv_has ls 1 [(0, .ref h0)] := hl
  refine lv_aload_n hx hb dL_init_0 rfl (lv_at hl 0 rfl) ?_
  refine W.objInit hx hb hown (hts _ kw_172) (hts _ kw_17) (hts _ kw_18) rfl (by rw [hml]; exact hl.1) rfl dL_init_1 (Nat.le_of_ble_eq_true rfl) (Nat.le_of_ble_eq_true rfl) ?_
  refine W.eq (g2 := F0 m 4 ls []) rfl ?_
  refine lv_aload_n hx hb dL_init_4 rfl (lv_at hl 0 rfl) ?_
  refine lv_bipush (v := 8) hx hb dL_init_5 (by decide) ?_
  refine va_newa (atype := .int) (ty := .int) (N' := 8) (a0 := zz0 8) hx hb (hts _ kw_67) rfl hK hP hD hS hA (fun _ => rfl) (by decide) (by decide) (Nat.le_of_ble_eq_true rfl) (Nat.le_of_ble_eq_true rfl) (Nat.le_of_ble_eq_true rfl) dL_init_7 (fun q7 c7 H hK hP hD hS => ?_)
  have hK : va_K D zCl [(c7, .int)] s := hK
  have hP : va_P D zCl [(h0, .inr (1, [.null, .null, .null, .int 0])), (q7, .inl (c7, zz0 8))] H := hP
  have hD : va_D A [(h0, .inr (1, [.null, .null, .null, .int 0])), (q7, .inl (c7, zz0 8))] := hD
  refine va_putF (D := D) (ci := 1) (v := .ref q7) (ty := .array .int) (C := RX1) (T := TX1) (N := 4) (ref := RX1) hx hb hts iX1 tyX1 tyX1_ok nmX1 hown hK hP hD hS 0 rfl rfl 0 (by decide) (hts _ kw_173) (fun _ h9 => h9) rfl hin rfl (by decide +kernel) rfl rfl (Nat.le_of_ble_eq_true rfl) dL_init_9 (fun H locs hP hD hS => ?_)
  have hP : va_P D zCl [(h0, .inr (1, [.ref q7, .null, .null, .int 0])), (q7, .inl (c7, zz0 8))] H := hP
  have hD : va_D A [(h0, .inr (1, [.ref q7, .null, .null, .int 0])), (q7, .inl (c7, zz0 8))] := hD
  refine lv_aload_n hx hb dL_init_12 rfl (lv_at hl 0 rfl) ?_
  refine lv_bipush (v := 8) hx hb dL_init_13 (by decide) ?_
  refine va_newa (atype := .int) (ty := .int) (N' := 8) (a0 := zz0 8) hx hb (hts _ kw_67) rfl hK hP hD hS hA (fun _ => rfl) (by decide) (by decide) (Nat.le_of_ble_eq_true rfl) (Nat.le_of_ble_eq_true rfl) (Nat.le_of_ble_eq_true rfl) dL_init_15 (fun q15 c15 H hK hP hD hS => ?_)
  obtain rfl : c15 = c7 := zRA_int (hK.2 1 _ rfl).2 (hK.2 0 _ rfl).2
  have hK := hK.sub (tys' := [(c15, .int)]) [0] rfl
  have hP : va_P D zCl [(h0, .inr (1, [.ref q7, .null, .null, .int 0])), (q7, .inl (c15, zz0 8)), (q15, .inl (c15, zz0 8))] H := hP
  have hD : va_D A [(h0, .inr (1, [.ref q7, .null, .null, .int 0])), (q7, .inl (c15, zz0 8)), (q15, .inl (c15, zz0 8))] := hD
  refine va_putF (D := D) (ci := 1) (v := .ref q15) (ty := .array .int) (C := RX1) (T := TX1) (N := 4) (ref := RX1) hx hb hts iX1 tyX1 tyX1_ok nmX1 hown hK hP hD hS 0 rfl rfl 1 (by decide) (hts _ kw_174) (fun _ h9 => h9) rfl hin rfl (by decide +kernel) rfl rfl (Nat.le_of_ble_eq_true rfl) dL_init_17 (fun H locs hP hD hS => ?_)
  have hP : va_P D zCl [(h0, .inr (1, [.ref q7, .ref q15, .null, .int 0])), (q7, .inl (c15, zz0 8)), (q15, .inl (c15, zz0 8))] H := hP
  have hD : va_D A [(h0, .inr (1, [.ref q7, .ref q15, .null, .int 0])), (q7, .inl (c15, zz0 8)), (q15, .inl (c15, zz0 8))] := hD
  refine lv_aload_n hx hb dL_init_20 rfl (lv_at hl 0 rfl) ?_
  refine lv_bipush (v := 8) hx hb dL_init_21 (by decide) ?_
  refine va_newa (atype := .boolean) (ty := .boolean) (N' := 8) (a0 := zz0 8) hx hb (hts _ kw_92) rfl hK hP hD hS hA (fun _ => rfl) (by decide) (by decide) (Nat.le_of_ble_eq_true rfl) (Nat.le_of_ble_eq_true rfl) (Nat.le_of_ble_eq_true rfl) dL_init_23 (fun q23 c23 H hK hP hD hS => ?_)
  have hK : va_K D zCl [(c15, .int), (c23, .boolean)] s := hK
  have hP : va_P D zCl [(h0, .inr (1, [.ref q7, .ref q15, .null, .int 0])), (q7, .inl (c15, zz0 8)), (q15, .inl (c15, zz0 8)), (q23, .inl (c23, zz0 8))] H := hP
  have hD : va_D A [(h0, .inr (1, [.ref q7, .ref q15, .null, .int 0])), (q7, .inl (c15, zz0 8)), (q15, .inl (c15, zz0 8)), (q23, .inl (c23, zz0 8))] := hD
  refine va_putF (D := D) (ci := 1) (v := .ref q23) (ty := .array .boolean) (C := RX1) (T := TX1) (N := 4) (ref := RX1) hx hb hts iX1 tyX1 tyX1_ok nmX1 hown hK hP hD hS 0 rfl rfl 2 (by decide) (hts _ kw_175) (fun _ h9 => h9) rfl hin rfl (by decide +kernel) rfl rfl (Nat.le_of_ble_eq_true rfl) dL_init_25 (fun H locs hP hD hS => ?_)
  have hP : va_P D zCl [(h0, .inr (1, [.ref q7, .ref q15, .ref q23, .int 0])), (q7, .inl (c15, zz0 8)), (q15, .inl (c15, zz0 8)), (q23, .inl (c23, zz0 8))] H := hP
  have hD : va_D A [(h0, .inr (1, [.ref q7, .ref q15, .ref q23, .int 0])), (q7, .inl (c15, zz0 8)), (q15, .inl (c15, zz0 8)), (q23, .inl (c23, zz0 8))] := hD
  exact W.vret hx hb hr (fun t ht hW => ⟨⟨(), rfl, trivial, q7, q15, q23, c15, c23, by rw [ht]; exact hP, va_K.moved hW.alike hK, hD⟩, hS.F ht⟩) hS.2.2 dL_init_28
