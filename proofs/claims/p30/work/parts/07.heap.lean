/-! fields, rows, calls, ends -/
def zFacts (ci : Nat) (C : String) (T : u_T) (N : Nat) (ty : Nat → FieldType) : Prop := zCl[ci]? = some (C, T, N) ∧ (∀ v ∈ u_ws C T N, v ∈ zWs) ∧ (∀ k, k < N → parseFieldDescriptor (T k).2.2.1 = some (ty k)) ∧ (∀ a, a < N → ∀ b, b < N → a ≠ b → (T a).2.1 ≠ (T b).2.1)
theorem fX0 : zFacts 0 RX0 TX0 9 tyX0 := ⟨rfl, iX0, tyX0_ok, nmX0⟩
theorem fX1 : zFacts 1 RX1 TX1 4 tyX1 := ⟨rfl, iX1, tyX1_ok, nmX1⟩
theorem fX2 : zFacts 2 RX2 TX2 5 tyX2 := ⟨rfl, iX2, tyX2_ok, nmX2⟩
theorem fX3 : zFacts 3 RX3 TX3 3 tyX3 := ⟨rfl, iX3, tyX3_ok, nmX3⟩
theorem fX4 : zFacts 4 RX4 TX4 4 tyX4 := ⟨rfl, iX4, tyX4_ok, nmX4⟩
theorem fX5 : zFacts 5 RX5 TX5 6 tyX5 := ⟨rfl, iX5, tyX5_ok, nmX5⟩
theorem fX6 : zFacts 6 RX6 TX6 8 tyX6 := ⟨rfl, iX6, tyX6_ok, nmX6⟩
theorem fX7 : zFacts 7 RX7 TX7 38 tyX7 := ⟨rfl, iX7, tyX7_ok, nmX7⟩
section ZH
variable {M : zK} {Z : zZ} {pc : Nat} {ls ls' : List (Nat × zV)} {st : List zV} {w : zW} {b0 : Nat} {lo hi : Int}
theorem r_getI {ci N idx k : Nat} {C : String} {T : u_T} {ty : Nat → FieldType} {fs : List Bool} (F : zFacts ci C T N ty) (hs : zS b0 = .inr (ci, fs)) (hf : fs[k]? = some false) (hk : k < N) (hl : Cond.fieldLink M.1.cls idx C (T k).2.1 (T k).2.2.1 ∈ zWs) (hC : (T k).1 = C) (kz : Int) (hkz : ((k : Nat) : Int) = kz) (hd : decode M.2.1 pc = .ok (.getfield idx, 3)) (hb : zB b0 kz = (lo, hi)) (kk : ∀ y : Int, y = w.1 b0 kz → lo ≤ y → y ≤ hi → zM M Z (pc + 3) ls (zI y :: st) w) : zM M Z pc ls (zR b0 :: st) w := by
  intro p l e s m args below meth c D ad cy A H locs la E hX hO hP hS hL
  subst hkz
  have hB := hO b0 (k : Int)
  rw [hb] at hB
  have he := zwl_at ad cy w (zlt_obj hs)
  rw [zE_obj hs] at he
  refine va_get (D := D) (ci := ci) (v := .int (Int32.ofInt (w.1 b0 (k : Int)))) (C := C) (T := T) (N := N) (ref := C) E.1 E.2.1 E.2.2.2.2.2.2.1 F.2.1 E.2.2.2.2.2.1 E.2.2.2.2.2.2.2.2.1 hP b0 he F.1 k hk (E.2.2.2.2.2.2.1 _ hl) (fun x9 h9 => by rw [hC] at h9; exact h9) ?_ hd ?_
  · unfold zobj
    rw [List.getElem?_mapIdx, hf]
    rfl
  · exact kk _ rfl hB.1 hB.2 p l e s m args below meth c D ad cy A H locs la E hX hO hP hS hL
theorem r_getR {b : Nat} {ci N idx k : Nat} {C : String} {T : u_T} {ty : Nat → FieldType} {fs : List Bool} (F : zFacts ci C T N ty) (hs : zS b0 = .inr (ci, fs)) (hf : fs[k]? = some true) (hr : zrf w b0 k = b) (hk : k < N) (hl : Cond.fieldLink M.1.cls idx C (T k).2.1 (T k).2.2.1 ∈ zWs) (hC : (T k).1 = C) (hd : decode M.2.1 pc = .ok (.getfield idx, 3)) (k9 : zM M Z (pc + 3) ls (zR b :: st) w) : zM M Z pc ls (zR b0 :: st) w := by
  intro p l e s m args below meth c D ad cy A H locs la E hX hO hP hS hL
  subst hr
  have he := zwl_at ad cy w (zlt_obj hs)
  rw [zE_obj hs] at he
  refine va_get (D := D) (ci := ci) (v := .ref (ad (zrf w b0 k))) (C := C) (T := T) (N := N) (ref := C) E.1 E.2.1 E.2.2.2.2.2.2.1 F.2.1 E.2.2.2.2.2.1 E.2.2.2.2.2.2.2.2.1 hP b0 he F.1 k hk (E.2.2.2.2.2.2.1 _ hl) (fun x9 h9 => by rw [hC] at h9; exact h9) ?_ hd ?_
  · unfold zobj
    rw [List.getElem?_mapIdx, hf]
    rfl
  · exact k9 p l e s m args below meth c D ad cy A H locs la E hX hO hP hS hL
theorem r_putI {v : Int} {ci N idx k : Nat} {C : String} {T : u_T} {ty : Nat → FieldType} {fs : List Bool} (F : zFacts ci C T N ty) (hs : zS b0 = .inr (ci, fs)) (hf : fs[k]? = some false) (hk : k < N) (hl : Cond.fieldLink M.1.cls idx C (T k).2.1 (T k).2.2.1 ∈ zWs) (hC : (T k).1 = C) (hfin : (T k).2.2.2 = false) (hI : parseFieldDescriptor (T k).2.2.1 = some .int) (kz : Int) (hkz : ((k : Nat) : Int) = kz) (hd : decode M.2.1 pc = .ok (.putfield idx, 3)) (hb : zB b0 kz = (lo, hi)) (h1 : lo ≤ v) (h2 : v ≤ hi) (kk : ∀ w' : zW, w' = zput w b0 kz v → zM M Z (pc + 3) ls st w') : zM M Z pc ls (zI v :: zR b0 :: st) w := by
  intro p l e s m args below meth c D ad cy A H locs la E hX hO hP hS hL
  subst hkz
  have he := zwl_at ad cy w (zlt_obj hs)
  rw [zE_obj hs] at he
  refine va_put (D := D) (ci := ci) (v := .int (Int32.ofInt v)) (ty := .int) (C := C) (T := T) (N := N) (ref := C) E.1 E.2.1 E.2.2.2.2.2.2.1 F.2.1 ty F.2.2.1 F.2.2.2 E.2.2.2.2.2.1 E.2.2.2.2.2.2.2.2.1 hP (zD_wl E.2.2.2.2.2.2.2.2.2.1 E.2.2.2.2.2.2.2.2.2.2.1 cy w) hS b0 he F.1 k hk (E.2.2.2.2.2.2.1 _ hl) (fun x9 h9 => by rw [hC] at h9; exact h9) hfin hI rfl rfl ?_ hd (fun H1 locs1 hP1 hD1 hS1 => ?_)
  · unfold zobj
    rw [List.length_mapIdx]
    exact (List.getElem?_eq_some_iff.mp hf).1
  · rw [zobj_put hf, zwl_eq ad cy w (zput w b0 (k : Int) v) (zlt_obj hs) (zE_obj hs) (fun j hj => zE_other (fun k2 => zput_i w _ _ _ hj) (fun _ => rfl))] at hP1
    exact kk _ rfl p l e s m args below meth c D ad cy A H1 locs1 la E hX (hO.put (by rw [hb]; exact h1) (by rw [hb]; exact h2)) hP1 hS1 hL
theorem r_getIN {ci N idx k : Nat} {C host : String} {T : u_T} {ty : Nat → FieldType} {fs : List Bool} (F : zFacts ci C T N ty) (hs : zS b0 = .inr (ci, fs)) (hf : fs[k]? = some false) (hk : k < N) (hl : Cond.fieldLinkNest M.1.cls idx C (T k).2.1 (T k).2.2.1 host ∈ zNs) (hC : (T k).1 = C) (kz : Int) (hkz : ((k : Nat) : Int) = kz) (hd : decode M.2.1 pc = .ok (.getfield idx, 3)) (hb : zB b0 kz = (lo, hi)) (kk : ∀ y : Int, y = w.1 b0 kz → lo ≤ y → y ≤ hi → zM M Z (pc + 3) ls (zI y :: st) w) : zM M Z pc ls (zR b0 :: st) w := by
  intro p l e s m args below meth c D ad cy A H locs la E hX hO hP hS hL
  subst hkz
  have hB := hO b0 (k : Int)
  rw [hb] at hB
  have he := zwl_at ad cy w (zlt_obj hs)
  rw [zE_obj hs] at he
  refine va_getN (D := D) (ci := ci) (v := .int (Int32.ofInt (w.1 b0 (k : Int)))) (C := C) (T := T) (N := N) (ref := C) E.1 E.2.1 E.2.2.2.2.2.2.1 F.2.1 E.2.2.2.2.2.1 E.2.2.2.2.2.2.2.2.1 hP b0 he F.1 k hk (va_Nw.use rfl (E.2.2.2.2.2.2.2.1 _ hl)) (fun x9 h9 => by rw [hC] at h9; exact h9) ?_ hd ?_
  · unfold zobj
    rw [List.getElem?_mapIdx, hf]
    rfl
  · exact kk _ rfl hB.1 hB.2 p l e s m args below meth c D ad cy A H locs la E hX hO hP hS hL
theorem r_getRN {b : Nat} {ci N idx k : Nat} {C host : String} {T : u_T} {ty : Nat → FieldType} {fs : List Bool} (F : zFacts ci C T N ty) (hs : zS b0 = .inr (ci, fs)) (hf : fs[k]? = some true) (hr : zrf w b0 k = b) (hk : k < N) (hl : Cond.fieldLinkNest M.1.cls idx C (T k).2.1 (T k).2.2.1 host ∈ zNs) (hC : (T k).1 = C) (hd : decode M.2.1 pc = .ok (.getfield idx, 3)) (k9 : zM M Z (pc + 3) ls (zR b :: st) w) : zM M Z pc ls (zR b0 :: st) w := by
  intro p l e s m args below meth c D ad cy A H locs la E hX hO hP hS hL
  subst hr
  have he := zwl_at ad cy w (zlt_obj hs)
  rw [zE_obj hs] at he
  refine va_getN (D := D) (ci := ci) (v := .ref (ad (zrf w b0 k))) (C := C) (T := T) (N := N) (ref := C) E.1 E.2.1 E.2.2.2.2.2.2.1 F.2.1 E.2.2.2.2.2.1 E.2.2.2.2.2.2.2.2.1 hP b0 he F.1 k hk (va_Nw.use rfl (E.2.2.2.2.2.2.2.1 _ hl)) (fun x9 h9 => by rw [hC] at h9; exact h9) ?_ hd ?_
  · unfold zobj
    rw [List.getElem?_mapIdx, hf]
    rfl
  · exact k9 p l e s m args below meth c D ad cy A H locs la E hX hO hP hS hL
theorem r_putIN {v : Int} {ci N idx k : Nat} {C host : String} {T : u_T} {ty : Nat → FieldType} {fs : List Bool} (F : zFacts ci C T N ty) (hs : zS b0 = .inr (ci, fs)) (hf : fs[k]? = some false) (hk : k < N) (hl : Cond.fieldLinkNest M.1.cls idx C (T k).2.1 (T k).2.2.1 host ∈ zNs) (hC : (T k).1 = C) (hfin : (T k).2.2.2 = false) (hI : parseFieldDescriptor (T k).2.2.1 = some .int) (kz : Int) (hkz : ((k : Nat) : Int) = kz) (hd : decode M.2.1 pc = .ok (.putfield idx, 3)) (hb : zB b0 kz = (lo, hi)) (h1 : lo ≤ v) (h2 : v ≤ hi) (kk : ∀ w' : zW, w' = zput w b0 kz v → zM M Z (pc + 3) ls st w') : zM M Z pc ls (zI v :: zR b0 :: st) w := by
  intro p l e s m args below meth c D ad cy A H locs la E hX hO hP hS hL
  subst hkz
  have he := zwl_at ad cy w (zlt_obj hs)
  rw [zE_obj hs] at he
  refine va_putN (D := D) (ci := ci) (v := .int (Int32.ofInt v)) (ty := .int) (C := C) (T := T) (N := N) (ref := C) E.1 E.2.1 E.2.2.2.2.2.2.1 F.2.1 ty F.2.2.1 F.2.2.2 E.2.2.2.2.2.1 E.2.2.2.2.2.2.2.2.1 hP (zD_wl E.2.2.2.2.2.2.2.2.2.1 E.2.2.2.2.2.2.2.2.2.2.1 cy w) hS b0 he F.1 k hk (va_Nw.use rfl (E.2.2.2.2.2.2.2.1 _ hl)) (fun x9 h9 => by rw [hC] at h9; exact h9) hfin hI rfl rfl ?_ hd (fun H1 locs1 hP1 hD1 hS1 => ?_)
  · unfold zobj
    rw [List.length_mapIdx]
    exact (List.getElem?_eq_some_iff.mp hf).1
  · rw [zobj_put hf, zwl_eq ad cy w (zput w b0 (k : Int) v) (zlt_obj hs) (zE_obj hs) (fun j hj => zE_other (fun k2 => zput_i w _ _ _ hj) (fun _ => rfl))] at hP1
    exact kk _ rfl p l e s m args below meth c D ad cy A H1 locs1 la E hX (hO.put (by rw [hb]; exact h1) (by rw [hb]; exact h2)) hP1 hS1 hL
theorem r_putRow {b idx : Nat} (hl : Cond.fieldLink M.1.cls idx RX5 (TX5 0).2.1 (TX5 0).2.2.1 ∈ zWs) (hd : decode M.2.1 pc = .ok (.putfield idx, 3)) (kk : ∀ w' : zW, w' = (w.1, b) → zM M Z (pc + 3) ls st w') : zM M Z pc ls (zR b :: zR 3 :: st) w := by
  intro p l e s m args below meth c D ad cy A H locs la E hX hO hP hS hL
  have hs : zS 3 = .inr (5, [true, false, false, false, false, false]) := rfl
  have he := zwl_at ad cy w (zlt_obj hs)
  rw [zE_obj hs] at he
  refine va_put (D := D) (ci := 5) (v := .ref (ad b)) (ty := .array .int) (C := RX5) (T := TX5) (N := 6) (ref := RX5) E.1 E.2.1 E.2.2.2.2.2.2.1 fX5.2.1 tyX5 fX5.2.2.1 fX5.2.2.2 E.2.2.2.2.2.1 E.2.2.2.2.2.2.2.2.1 hP (zD_wl E.2.2.2.2.2.2.2.2.2.1 E.2.2.2.2.2.2.2.2.2.2.1 cy w) hS 3 he fX5.1 0 (by decide) (E.2.2.2.2.2.2.1 _ hl) (fun _ h9 => h9) rfl (by decide +kernel) rfl rfl ?_ hd (fun H1 locs1 hP1 hD1 hS1 => ?_)
  · unfold zobj
    rw [List.length_mapIdx]
    decide
  · rw [zobj_ref (by rfl), zwl_eq ad cy w (w.1, b) (zlt_obj hs) (zE_obj hs) (fun j hj => zE_other (fun k2 => rfl) (fun k2 => by simp [zrf, hj]))] at hP1
    exact kk _ rfl p l e s m args below meth c D ad cy A H1 locs1 la E hX hO hP1 hS1 hL
theorem zlt_arr {i t n : Nat} (h : zS i = .inl (t, n)) (h0 : 0 < n) : i < zN := by
  rcases Nat.lt_or_ge i zN with q | q
  · exact q
  · have e : zS i = .inl (0, 0) := by
      unfold zS
      rw [List.getD_eq_getElem?_getD, List.getElem?_eq_none (by exact q)]
      rfl
    rw [e] at h
    cases h
    omega
theorem r_iaload {n : Nat} {j : Int} (hs : zS b0 = .inl (0, n)) (hn : n < 2147483648) (hd : decode M.2.1 pc = .ok (.iaload, 1)) (h0 : 0 ≤ j) (h1 : j < n) (hb : zB b0 j = (lo, hi)) (kk : ∀ y : Int, y = w.1 b0 j → lo ≤ y → y ≤ hi → zM M Z (pc + 1) ls (zI y :: st) w) : zM M Z pc ls (zI j :: zR b0 :: st) w := by
  intro p l e s m args below meth c D ad cy A H locs la E hX hO hP hS hL
  have hB := hO b0 j
  rw [hb] at hB
  have hlt : b0 < zN := zlt_arr hs (by omega)
  have he := zwl_at ad cy w hlt
  rw [zE_arr hs] at he
  refine va_iald (f := fun q => Int32.ofInt (w.1 b0 (q : Int))) (n := n) (cA := cy 0) E.1 E.2.1 E.2.2.2.2.2.2.2.2.1 hP b0 0 he rfl (zi_in h0 h1 hn) hd ?_
  have h9 := kk _ rfl hB.1 hB.2 p l e s m args below meth c D ad cy A H locs la E hX hO hP hS hL
  rw [zi_nat h0 (by omega)]
  have e9 : ((j.toNat : Nat) : Int) = j := Int.toNat_of_nonneg h0
  rw [e9]
  exact h9
theorem r_baload {n : Nat} {j : Int} (hs : zS b0 = .inl (1, n)) (hn : n < 2147483648) (hd : decode M.2.1 pc = .ok (.baload, 1)) (h0 : 0 ≤ j) (h1 : j < n) (hb : zB b0 j = (lo, hi)) (kk : ∀ y : Int, y = w.1 b0 j → lo ≤ y → y ≤ hi → zM M Z (pc + 1) ls (zI y :: st) w) : zM M Z pc ls (zI j :: zR b0 :: st) w := by
  intro p l e s m args below meth c D ad cy A H locs la E hX hO hP hS hL
  have hB := hO b0 j
  rw [hb] at hB
  have hlt : b0 < zN := zlt_arr hs (by omega)
  have he := zwl_at ad cy w hlt
  rw [zE_arr hs] at he
  refine va_zald (f := fun q => Int32.ofInt (w.1 b0 (q : Int))) (n := n) (cA := cy 1) E.1 E.2.1 E.2.2.2.2.2.2.2.2.1 hP b0 1 he rfl (zi_in h0 h1 hn) hd ?_
  have h9 := kk _ rfl hB.1 hB.2 p l e s m args below meth c D ad cy A H locs la E hX hO hP hS hL
  rw [zi_nat h0 (by omega)]
  have e9 : ((j.toNat : Nat) : Int) = j := Int.toNat_of_nonneg h0
  rw [e9]
  exact h9
theorem r_aaload {n b : Nat} {j : Int} (hs : zS b0 = .inl (2, n)) (hn : n < 2147483648) (hd : decode M.2.1 pc = .ok (.aaload, 1)) (h0 : 0 ≤ j) (h1 : j < n) (hr : zrf w b0 j.toNat = b) (k : zM M Z (pc + 1) ls (zR b :: st) w) : zM M Z pc ls (zI j :: zR b0 :: st) w := by
  intro p l e s m args below meth c D ad cy A H locs la E hX hO hP hS hL
  subst hr
  have hlt : b0 < zN := zlt_arr hs (by omega)
  have he := zwl_at ad cy w hlt
  rw [zE_arr hs] at he
  have hc : H[ad b0]? = some (arrV (cy 2) n (fun q => va_rf (some (ad (zrf w b0 q))))) := hP b0 _ he
  have hj : (Int32.ofInt j).toNatClampNeg = j.toNat := zi_nat h0 (by omega)
  refine W.aald (v := .ref (ad (zrf w b0 j.toNat))) (ty := .array .int) E.1 E.2.1 hc ((E.2.2.2.2.2.2.2.2.1.2 2 (cy 2, .array .int) rfl).1 n _) rfl (fun q => by cases q) ?_ ?_ rfl rfl hd ?_
  · rw [arrV_size]
    exact zi_in h0 h1 hn
  · rw [hj, arrV_read _ _ (by omega)]
    rfl
  · exact k p l e s m args below meth c D ad cy A H locs la E hX hO hP hS hL
theorem r_iastore {n : Nat} {j v : Int} (hs : zS b0 = .inl (0, n)) (hn : n < 2147483648) (hd : decode M.2.1 pc = .ok (.iastore, 1)) (h0 : 0 ≤ j) (h1 : j < n) (hb : zB b0 j = (lo, hi)) (h2 : lo ≤ v) (h3 : v ≤ hi) (kk : ∀ w' : zW, w' = zput w b0 j v → zM M Z (pc + 1) ls st w') : zM M Z pc ls (zI v :: zI j :: zR b0 :: st) w := by
  intro p l e s m args below meth c D ad cy A H locs la E hX hO hP hS hL
  have hlt : b0 < zN := zlt_arr hs (by omega)
  have he := zwl_at ad cy w hlt
  rw [zE_arr hs] at he
  refine va_iast (f := fun q => Int32.ofInt (w.1 b0 (q : Int))) (n := n) (cA := cy 0) E.1 E.2.1 E.2.2.2.2.2.2.2.2.1 hP (zD_wl E.2.2.2.2.2.2.2.2.2.1 E.2.2.2.2.2.2.2.2.2.2.1 cy w) hS b0 0 he rfl (zi_in h0 h1 hn) hd (fun H1 locs1 hP1 hD1 hS1 => ?_)
  rw [zi_nat h0 (by omega), zarr_put (ad := ad) (w := w) (i := b0) (t := 0) (n := n) (k := j) (v := v) (by decide) h0, zwl_eq ad cy w (zput w b0 j v) hlt (zE_arr hs) (fun i2 hi2 => zE_other (fun k2 => zput_i w _ _ _ hi2) (fun _ => rfl))] at hP1
  exact kk _ rfl p l e s m args below meth c D ad cy A H1 locs1 la E hX (hO.put (by rw [hb]; exact h2) (by rw [hb]; exact h3)) hP1 hS1 hL
theorem r_bastore {n : Nat} {j v : Int} (hs : zS b0 = .inl (1, n)) (hn : n < 2147483648) (hd : decode M.2.1 pc = .ok (.bastore, 1)) (h0 : 0 ≤ j) (h1 : j < n) (h01 : v = 0 ∨ v = 1) (hb : zB b0 j = (lo, hi)) (h2 : lo ≤ v) (h3 : v ≤ hi) (kk : ∀ w' : zW, w' = zput w b0 j v → zM M Z (pc + 1) ls st w') : zM M Z pc ls (zI v :: zI j :: zR b0 :: st) w := by
  intro p l e s m args below meth c D ad cy A H locs la E hX hO hP hS hL
  have hlt : b0 < zN := zlt_arr hs (by omega)
  have he := zwl_at ad cy w hlt
  rw [zE_arr hs] at he
  refine va_zast (f := fun q => Int32.ofInt (w.1 b0 (q : Int))) (n := n) (cA := cy 1) E.1 E.2.1 E.2.2.2.2.2.2.2.2.1 hP (zD_wl E.2.2.2.2.2.2.2.2.2.1 E.2.2.2.2.2.2.2.2.2.2.1 cy w) hS b0 1 he rfl (zi_in h0 h1 hn) hd (fun H1 locs1 hP1 hD1 hS1 => ?_)
  have hnar : vp_nar .boolean (Int32.ofInt v) = Int32.ofInt v := by
    rcases h01 with rfl | rfl <;> decide +kernel
  rw [hnar] at hP1
  rw [zi_nat h0 (by omega), zarr_put (ad := ad) (w := w) (i := b0) (t := 1) (n := n) (k := j) (v := v) (by decide) h0, zwl_eq ad cy w (zput w b0 j v) hlt (zE_arr hs) (fun i2 hi2 => zE_other (fun k2 => zput_i w _ _ _ hi2) (fun _ => rfl))] at hP1
  exact kk _ rfl p l e s m args below meth c D ad cy A H1 locs1 la E hX (hO.put (by rw [hb]; exact h2) (by rw [hb]; exact h3)) hP1 hS1 hL
def zcpy (w : zW) (a b : Nat) (sp dp n : Int) : zW := (fun i k => if i = b ∧ dp ≤ k ∧ k < dp + n then w.1 a (sp + (k - dp)) else w.1 i k, w.2)
theorem zcpy_arr {ad : Nat → Nat} {w : zW} {a b N : Nat} {sp dp n : Int} (h1 : 0 ≤ sp) (h2 : 0 ≤ dp) (h3 : 0 ≤ n) : (N, Sum.inl (va_cpy (fun j => Int32.ofInt (w.1 a (j : Int))) (fun j => Int32.ofInt (w.1 b (j : Int))) sp.toNat dp.toNat n.toNat)) = zarr ad (zcpy w a b sp dp n) b 0 N := by
  unfold zarr
  rw [if_neg (by decide)]
  congr 2
  funext j
  by_cases h : dp ≤ (j : Int) ∧ (j : Int) < dp + n
  · rw [pk_cpy_in (by omega) (by omega)]
    show _ = Int32.ofInt (if b = b ∧ dp ≤ (j : Int) ∧ (j : Int) < dp + n then _ else _)
    rw [if_pos ⟨rfl, h⟩]
    have e9 : ((sp.toNat + (j - dp.toNat) : Nat) : Int) = sp + ((j : Int) - dp) := by omega
    rw [e9]
  · rw [pk_cpy_out (by omega)]
    show _ = Int32.ofInt (if b = b ∧ dp ≤ (j : Int) ∧ (j : Int) < dp + n then _ else _)
    rw [if_neg (fun q => h q.2)]
theorem zOk.cpy {w : zW} (h : zOk w) {a b : Nat} {sp dp n : Int} (hb : ∀ k k', zB a k = zB b k') : zOk (zcpy w a b sp dp n) := by
  intro i k
  show (zB i k).1 ≤ (if i = b ∧ dp ≤ k ∧ k < dp + n then w.1 a (sp + (k - dp)) else w.1 i k) ∧ (if i = b ∧ dp ≤ k ∧ k < dp + n then w.1 a (sp + (k - dp)) else w.1 i k) ≤ (zB i k).2
  by_cases q : i = b ∧ dp ≤ k ∧ k < dp + n
  · rw [if_pos q, q.1, ← hb (sp + (k - dp)) k]
    exact h a _
  · rw [if_neg q]
    exact h i k
theorem r_copy {a b N1 N2 idx : Nat} {sp dp n : Int} (ha : zS a = .inl (0, N1)) (hb : zS b = .inl (0, N2)) (hN1 : N1 < 2147483648) (hN2 : N2 < 2147483648) (hp1 : 0 < N1) (hp2 : 0 < N2) (hl : Cond.methodLink M.1.cls idx arraycopyName ∈ zWs) (hnat : Cond.native arraycopyName ∈ zWs) (hst : Cond.static arraycopyName ∈ zWs) (hini : Cond.initialized "java/lang/System" ∈ zWs) (hd : decode M.2.1 pc = .ok (.invokestatic idx, 3)) (h1 : 0 ≤ sp) (h2 : 0 ≤ dp) (h3 : 0 ≤ n) (h4 : sp + n ≤ N1) (h5 : dp + n ≤ N2) (hB : ∀ k k', zB a k = zB b k') (hfr : 1 ≤ Z.1.frames) (hlo : zsz st + (nativeFrameWords "java/lang/System" "arraycopy" 5 + 11) ≤ Z.1.locals) (kk : ∀ w' : zW, w' = zcpy w a b sp dp n → zM M Z (pc + 3) ls st w') : zM M Z pc ls (zI n :: zI dp :: zR b :: zI sp :: zR a :: st) w := by
  intro p l e s m args below meth c D ad cy A H locs la E hX hO hP hS hL
  have hla : a < zN := zlt_arr ha hp1
  have hlb : b < zN := zlt_arr hb hp2
  have hea := zwl_at ad cy w hla
  rw [zE_arr ha] at hea
  have heb := zwl_at ad cy w hlb
  rw [zE_arr hb] at heb
  have ng : ∀ {x : Int}, 0 ≤ x → x < 2147483648 → ¬ Int32.ofInt x < 0 := fun {x} hx0 hx1 q => by
    rw [Int32.lt_iff_toInt_lt, zi_to ⟨by omega, by omega⟩] at q
    have e0 : (0 : Int32).toInt = 0 := by decide +kernel
    omega
  have t1 : (Int32.ofInt sp).toNatClampNeg = sp.toNat := zi_nat h1 (by omega)
  have t2 : (Int32.ofInt dp).toNatClampNeg = dp.toNat := zi_nat h2 (by omega)
  have t3 : (Int32.ofInt n).toNatClampNeg = n.toNat := zi_nat h3 (by omega)
  refine va_copyi (f := fun j => Int32.ofInt (w.1 a (j : Int))) (g := fun j => Int32.ofInt (w.1 b (j : Int))) (n0 := N1) (n1 := N2) (c0 := cy 0) (c1 := cy 0) (ty := .int) E.1 E.2.1 (E.2.2.1.trans hL.1.symm) E.2.2.2.2.2.1 (E.2.2.2.2.2.2.1 _ hl) (E.2.2.2.2.2.2.1 _ hnat) (E.2.2.2.2.2.2.1 _ hst) (E.2.2.2.2.2.2.1 _ hini) E.2.2.2.2.2.2.2.2.1 hP (zD_wl E.2.2.2.2.2.2.2.2.2.1 E.2.2.2.2.2.2.2.2.2.2.1 cy w) hS a b 0 0 hea heb rfl rfl rfl (ng h1 (by omega)) (ng h2 (by omega)) (ng h3 (by omega)) (by rw [t1, t3]; omega) (by rw [t2, t3]; omega) (fun _ _ => rfl) hfr (by rw [zsz_sum]; exact hlo) hd (fun H1 locs1 hP1 hD1 hS1 => ?_)
  rw [t1, t2, t3, zcpy_arr (ad := ad) h1 h2 h3, zwl_eq ad cy w (zcpy w a b sp dp n) hlb (zE_arr hb) (fun i2 hi2 => zE_other (fun k2 => by simp [zcpy, hi2]) (fun _ => rfl))] at hP1
  exact kk _ rfl p l e s m args below meth c D ad cy A H1 locs1 la E hX (hO.cpy hB) hP1 hS1 hL
theorem r_min {idx : Nat} {x y : Int} (hl : Cond.methodLink M.1.cls idx Lib.Math.min.name ∈ zWs) (hst : Cond.static Lib.Math.min.name ∈ zWs) (hini : Cond.initialized "java/lang/Math" ∈ zWs) (hcd : Cond.code Lib.Math.min.name Lib.Math.min.code 2 (some .int) ∈ zWs) (hd : decode M.2.1 pc = .ok (.invokestatic idx, 3)) (hx : zin x) (hy : zin y) (hfr : 1 ≤ Z.1.frames) (hlo : zsz st + 13 ≤ Z.1.locals) (hce : Z.2.1 ≤ Z.1.cells) (hsl : Z.2.2.1 ≤ Z.1.slots) (k : zM M Z (pc + 3) ls (zI (if y < x then y else x) :: st) w) : zM M Z pc ls (zI y :: zI x :: st) w := by
  intro p l e s m args below meth c D ad cy A H locs la E hX hO hP hS hL
  refine va_mmin E.1 E.2.1 (E.2.2.1.trans hL.1.symm) E.2.2.2.2.2.1 (E.2.2.2.2.2.2.1 _ hl) (E.2.2.2.2.2.2.1 _ hst) (E.2.2.2.2.2.2.1 _ hini) (E.2.2.2.2.2.2.1 _ hcd) hfr (by rw [zsz_sum]; exact hlo) hce hsl hd ?_
  have e9 : (if Int32.ofInt y < Int32.ofInt x then Int32.ofInt y else Int32.ofInt x) = Int32.ofInt (if y < x then y else x) := by
    by_cases h : y < x
    · rw [if_pos h, if_pos ((zi_lt hy hx).mpr h)]
    · rw [if_neg h, if_neg (fun q => h ((zi_lt hy hx).mp q))]
  rw [e9]
  exact k p l e s m args below meth c D ad cy A H locs la E hX hO hP hS hL
def zCal (M' : zK) (n : Nat) : Prop := Cond.code M'.1 M'.2.1 M'.2.2.1 M'.2.2.2 ∈ zWs ∧ Cond.initialized M'.1.cls ∈ zWs ∧ (M'.1.cls ≠ "java/lang/invoke/MethodHandle" ∧ M'.1.cls ≠ "java/lang/invoke/VarHandle" ∧ (parseMethodDescriptor M'.1.desc).map (fun d => d.parameters.length) = some n)
def zCalV (M' : zK) (n : Nat) : Prop := zCal M' n ∧ Cond.instanceMethod M'.1 ∈ zWs ∧ Cond.selects M'.1.cls M'.1 M'.1 ∈ zWs
def zCalS (M' : zK) (n : Nat) : Prop := zCal M' n ∧ Cond.static M'.1 ∈ zWs
theorem zgood : ∀ v ∈ zWs, (v.onTables && v.keeps) = true ∨ ∃ ty, v = .arrayClass ty := fun v hv => good_of_word (List.mem_filter.mp hv).2
theorem zGoodIn {M' : zK} {n : Nat} (h : zCal M' n) : GoodIn zWs (zWM M') := fun v hv => by
  rcases List.mem_cons.mp hv with rfl | hv
  · exact ⟨h.1, zgood _ h.1⟩
  · exact ⟨hv, zgood _ hv⟩
theorem zNs_warm {s U : State} (hW : s.WarmedH U.vm) (h : ∀ v ∈ zNs, va_Nw v s) : ∀ v ∈ zNs, va_Nw v U := by
  intro v hv
  have h1 := h v hv
  have h2 := (List.mem_filter.mp hv).2
  cases v <;> first | (exact va_Nw.warmF hW h1) | (exact va_Nw.warmM hW h1) | (simp [zNest] at h2)
theorem zPre {s : State} {H : Heap} {D : va_G} {ad : Nat → Nat} {cy : Nat → ClassId} {as : List zV} {w : zW} (hK : va_K D zCl (zTys cy) s) (hN : ∀ v ∈ zNs, va_Nw v s) (hP : va_P D zCl (zwl ad cy w) H) : ∀ U : State, U.heap = H → s.WarmedH U.vm → zPc as w D ad cy H.size (as.map (zcv ad)).toArray U := fun U hU hW =>
  ⟨rfl, by rw [hU], by rw [hU]; exact hP, va_K.moved hW.alike hK, zNs_warm hW hN⟩
theorem zBlind {as : List zV} {w : zW} {D : va_G} {ad : Nat → Nat} {cy : Nat → ClassId} {sz : Nat} : FrameBlind (zPc as w D ad cy sz) := fun a U g mk q => by
  obtain ⟨q0, q1, qP, qK, qN⟩ := q
  exact ⟨q0, q1, qP, va_K.moved (u := U) (U := U.calling g mk a) (Vm.Alike.refl U.vm) qK, fun v hv => va_Nw.same (u := U) (U := U.calling g mk a) (by have h2 := (List.mem_filter.mp hv).2; cases v <;> first | rfl | (simp [zNest] at h2)) rfl (qN v hv)⟩
section ZCB
variable {p : Program} {l : Launch} {e : Env} {R : Room} {s : State} {m : MethodId} {args : Array Value} {below : List Frame} {meth : Method} {c : Code} {H : Heap} {locs : List Loc} {cells slots : Nat} {Q : State → Prop}
variable {pc : Nat} {la : Array Slot} {rest st0 : List Value} {a : Array Value} {A0 : Nat → Prop}
theorem zback {post : Option zV → zW → Prop} {D : va_G} {ad : Nat → Nat} {cy : Nat → ClassId} (hr : va_Run p l e R s m args below meth c H locs cells slots 0 0 (F0 m pc la st0) rest (zQ post D ad cy (zAA ad H.size) a) (zAA ad H.size)) (hS : va_S A0 s.heap H locs) (hAa : ∀ i, i < zN → A0 (ad i)) (hA : ∀ q, s.heap.size ≤ q → A0 q)
    (kk : ∀ (r : Option zV) (w' : zW) (H1 : Heap) (locs1 : List Loc), post r w' → zOk w' → va_P D zCl (zwl ad cy w') H1 → va_S A0 s.heap H1 locs1 → W p l e R s m args below meth c H1 locs1 cells slots Q (F0 m (pc + 3) la ((r.map (zcv ad)).toList ++ rest))) : W p l e R s m args below meth c H locs cells slots Q (F0 m pc la st0) := by
  have hAA : ∀ q, zAA ad H.size q → A0 q := fun q h => by
    rcases h with ⟨i, hi, rfl⟩ | h
    · exact hAa i hi
    · exact hA q (Nat.le_trans hS.1 h)
  intro T hT X
  obtain ⟨v, st₀, t, T', L, h0, X', hL, e1, e2, ⟨⟨r, w', hv, hp, hok, hP'⟩, hz, hk⟩, st⟩ := hr T hT X
  cases hv
  rw [h0] at hz hk
  obtain ⟨t2, a1, b1⟩ := kk r w' T'.heap (locs ++ L) hp hok (by rw [e1]; exact hP')
    ⟨Nat.le_trans hS.1 (by rw [e1]; exact hz), fun q h1 h2 => by rw [e1, hk q (Nat.lt_of_lt_of_le h1 hS.1) (fun z => h2 (hAA q z))]; exact hS.2.1 q h1 h2, fun q hq => by
      rcases List.mem_append.mp hq with h | h
      · exact hS.2.2 q h
      · exact hAA _ (hL q h)⟩ T' rfl X'
  exact ⟨t2, st t2 a1, b1⟩
end ZCB
theorem r_callV {M' : zK} {d idx n : Nat} {as st0 : List zV} {post' : Option zV → zW → Prop} {ci : Nat} {fs : List Bool} {T : u_T} {N : Nat} (hC : zC M' d (zR b0 :: as) w post') (hq : zCalV M' n) (hn : as.length = n) (hl : Cond.methodLink M.1.cls idx M'.1 ∈ zWs) (hs : zS b0 = .inr (ci, fs)) (hcl : zCl[ci]? = some (M'.1.cls, T, N)) (hd : decode M.2.1 pc = .ok (.invokevirtual idx, 3)) (hst : st0 = as.reverse ++ zR b0 :: st) (hroom : d + 1 ≤ Z.1.frames ∧ 8 + (M'.2.2.1 + 11) + 40 * d ≤ Z.1.locals) (hce : Z.2.1 ≤ Z.1.cells ∧ Z.2.2.1 ≤ Z.1.slots) (hcat : zsz st ≤ 8) (kk : ∀ (r : Option zV) (w' : zW), post' r w' → zOk w' → zM M Z (pc + 3) ls (r.toList ++ st) w') : zM M Z pc ls st0 w := by
  intro p l e s m args below meth c D ad cy A H locs la E hX hO hP hS hL
  subst hst
  have he := zwl_at ad cy w (zlt_obj hs)
  rw [zE_obj hs] at he
  refine zback (Q := Z.2.2.2.1 below args s D ad cy A) (rest := st.map (zcv ad)) ?_ hS E.2.2.2.2.2.2.2.2.2.2.1 E.2.2.2.2.2.2.2.2.2.2.2 (fun r w' H1 locs1 h1 h2 h3 h4 => ?_) (post := post') (D := D) (ad := ad) (cy := cy) (a := ((zR b0 :: as).map (zcv ad)).toArray)
  · exact va_runV (C := M'.1.cls) (As := as.map (zcv ad)) (rest := st.map (zcv ad)) (mc := 0) (ms := 0) (n := n) (Ts := zWs) ⟨E.1, E.2.1, E.2.2.1, E.2.2.2.2.2.1, E.2.2.2.2.2.2.1⟩ (hC l D ad cy H.size E.2.2.2.2.2.2.2.2.2.1 hO) ⟨callB_of (R := Z.1) (s := s) (args := args) (own := M.1.cls) (index := idx) (mc := 0) (ms := 0) n E.2.2.2.2.2.2.1 (zGoodIn hq.1) (ws' := zWs) rfl rfl rfl (E.2.2.2.2.2.2.1 _ hq.1.2.1) (E.2.2.2.2.2.2.1 _ hl) hq.1.2.2 hroom, E.2.2.2.2.2.2.1 _ hq.2.1, E.2.2.2.2.2.2.1 _ hq.2.2⟩ ⟨zBlind, va_recv (q0 := b0) E.2.2.2.2.2.2.2.2.1 hP hcl he, zPre E.2.2.2.2.2.2.2.2.1 E.2.2.2.2.2.2.2.1 hP⟩ rfl (by rw [List.length_map]; exact hn) hL.1 (by show List.map _ _ = _; rw [List.map_append, List.map_reverse]; rfl) (lv_room (by rw [zsz_sum]; exact hcat)) hd ⟨hce.1, hce.2⟩
  · have h9 := kk r w' h1 h2 p l e s m args below meth c D ad cy A H1 locs1 la E hX h2 h3 h4 hL
    rw [List.map_append] at h9
    cases r <;> exact h9
theorem r_callS {M' : zK} {d idx n : Nat} {as st0 : List zV} {post' : Option zV → zW → Prop} (hC : zC M' d as w post') (hq : zCalS M' n) (hn : as.length = n) (hl : Cond.methodLink M.1.cls idx M'.1 ∈ zWs) (hd : decode M.2.1 pc = .ok (.invokestatic idx, 3)) (hst : st0 = as.reverse ++ st) (hroom : d + 1 ≤ Z.1.frames ∧ 8 + (M'.2.2.1 + 11) + 40 * d ≤ Z.1.locals) (hce : Z.2.1 ≤ Z.1.cells ∧ Z.2.2.1 ≤ Z.1.slots) (hcat : zsz st ≤ 8) (kk : ∀ (r : Option zV) (w' : zW), post' r w' → zOk w' → zM M Z (pc + 3) ls (r.toList ++ st) w') : zM M Z pc ls st0 w := by
  intro p l e s m args below meth c D ad cy A H locs la E hX hO hP hS hL
  subst hst
  refine zback (Q := Z.2.2.2.1 below args s D ad cy A) (rest := st.map (zcv ad)) ?_ hS E.2.2.2.2.2.2.2.2.2.2.1 E.2.2.2.2.2.2.2.2.2.2.2 (fun r w' H1 locs1 h1 h2 h3 h4 => ?_) (post := post') (D := D) (ad := ad) (cy := cy) (a := (as.map (zcv ad)).toArray)
  · exact va_runS (As := as.map (zcv ad)) (rest := st.map (zcv ad)) (mc := 0) (ms := 0) (n := n) (Ts := zWs) ⟨E.1, E.2.1, E.2.2.1, E.2.2.2.2.2.1, E.2.2.2.2.2.2.1⟩ (hC l D ad cy H.size E.2.2.2.2.2.2.2.2.2.1 hO) ⟨callB_of (R := Z.1) (s := s) (args := args) (own := M.1.cls) (index := idx) (mc := 0) (ms := 0) n E.2.2.2.2.2.2.1 (zGoodIn hq.1) (ws' := zWs) rfl rfl rfl (E.2.2.2.2.2.2.1 _ hq.1.2.1) (E.2.2.2.2.2.2.1 _ hl) hq.1.2.2 hroom, E.2.2.2.2.2.2.1 _ hq.2⟩ ⟨zBlind, zPre E.2.2.2.2.2.2.2.2.1 E.2.2.2.2.2.2.2.1 hP⟩ rfl (by rw [List.length_map]; exact hn) hL.1 (by show List.map _ _ = _; rw [List.map_append, List.map_reverse]) (lv_room (by rw [zsz_sum]; exact hcat)) hd ⟨hce.1, hce.2⟩
  · have h9 := kk r w' h1 h2 p l e s m args below meth c D ad cy A H1 locs1 la E hX h2 h3 h4 hL
    rw [List.map_append] at h9
    cases r <;> exact h9
theorem r_callVN {M' : zK} {d idx n : Nat} {as st0 : List zV} {post' : Option zV → zW → Prop} {host : String} {ci : Nat} {fs : List Bool} {T : u_T} {N : Nat} (hC : zC M' d (zR b0 :: as) w post') (hq : zCalV M' n) (hn : as.length = n) (hl : Cond.methodLinkNest M.1.cls idx M'.1 host ∈ zNs) (hs : zS b0 = .inr (ci, fs)) (hcl : zCl[ci]? = some (M'.1.cls, T, N)) (hd : decode M.2.1 pc = .ok (.invokevirtual idx, 3)) (hst : st0 = as.reverse ++ zR b0 :: st) (hroom : d + 1 ≤ Z.1.frames ∧ 8 + (M'.2.2.1 + 11) + 40 * d ≤ Z.1.locals) (hce : Z.2.1 ≤ Z.1.cells ∧ Z.2.2.1 ≤ Z.1.slots) (hcat : zsz st ≤ 8) (kk : ∀ (r : Option zV) (w' : zW), post' r w' → zOk w' → zM M Z (pc + 3) ls (r.toList ++ st) w') : zM M Z pc ls st0 w := by
  intro p l e s m args below meth c D ad cy A H locs la E hX hO hP hS hL
  subst hst
  have he := zwl_at ad cy w (zlt_obj hs)
  rw [zE_obj hs] at he
  refine zback (Q := Z.2.2.2.1 below args s D ad cy A) (rest := st.map (zcv ad)) ?_ hS E.2.2.2.2.2.2.2.2.2.2.1 E.2.2.2.2.2.2.2.2.2.2.2 (fun r w' H1 locs1 h1 h2 h3 h4 => ?_) (post := post') (D := D) (ad := ad) (cy := cy) (a := ((zR b0 :: as).map (zcv ad)).toArray)
  · exact va_runVN (C := M'.1.cls) (As := as.map (zcv ad)) (rest := st.map (zcv ad)) (mc := 0) (ms := 0) (n := n) (Ts := zWs) ⟨E.1, E.2.1, E.2.2.1, E.2.2.2.2.2.1, E.2.2.2.2.2.2.1⟩ (hC l D ad cy H.size E.2.2.2.2.2.2.2.2.2.1 hO) ⟨va_cnB (R := Z.1) (s := s) (args := args) (own := M.1.cls) (index := idx) (mc := 0) (ms := 0) n E.2.2.2.2.2.2.1 (zGoodIn hq.1) (ws' := zWs) rfl rfl rfl (E.2.2.2.2.2.2.2.1 _ hl) (E.2.2.2.2.2.2.1 _ hq.1.2.1) hq.1.2.2 hroom, E.2.2.2.2.2.2.1 _ hq.2.1, E.2.2.2.2.2.2.1 _ hq.2.2⟩ ⟨zBlind, va_recv (q0 := b0) E.2.2.2.2.2.2.2.2.1 hP hcl he, zPre E.2.2.2.2.2.2.2.2.1 E.2.2.2.2.2.2.2.1 hP⟩ rfl (by rw [List.length_map]; exact hn) hL.1 (by show List.map _ _ = _; rw [List.map_append, List.map_reverse]; rfl) (lv_room (by rw [zsz_sum]; exact hcat)) hd ⟨hce.1, hce.2⟩
  · have h9 := kk r w' h1 h2 p l e s m args below meth c D ad cy A H1 locs1 la E hX h2 h3 h4 hL
    rw [List.map_append] at h9
    cases r <;> exact h9
theorem r_callSN {M' : zK} {d idx n : Nat} {as st0 : List zV} {post' : Option zV → zW → Prop} {host : String} (hC : zC M' d as w post') (hq : zCalS M' n) (hn : as.length = n) (hl : Cond.methodLinkNest M.1.cls idx M'.1 host ∈ zNs) (hd : decode M.2.1 pc = .ok (.invokestatic idx, 3)) (hst : st0 = as.reverse ++ st) (hroom : d + 1 ≤ Z.1.frames ∧ 8 + (M'.2.2.1 + 11) + 40 * d ≤ Z.1.locals) (hce : Z.2.1 ≤ Z.1.cells ∧ Z.2.2.1 ≤ Z.1.slots) (hcat : zsz st ≤ 8) (kk : ∀ (r : Option zV) (w' : zW), post' r w' → zOk w' → zM M Z (pc + 3) ls (r.toList ++ st) w') : zM M Z pc ls st0 w := by
  intro p l e s m args below meth c D ad cy A H locs la E hX hO hP hS hL
  subst hst
  refine zback (Q := Z.2.2.2.1 below args s D ad cy A) (rest := st.map (zcv ad)) ?_ hS E.2.2.2.2.2.2.2.2.2.2.1 E.2.2.2.2.2.2.2.2.2.2.2 (fun r w' H1 locs1 h1 h2 h3 h4 => ?_) (post := post') (D := D) (ad := ad) (cy := cy) (a := (as.map (zcv ad)).toArray)
  · exact va_runSN (As := as.map (zcv ad)) (rest := st.map (zcv ad)) (mc := 0) (ms := 0) (n := n) (Ts := zWs) ⟨E.1, E.2.1, E.2.2.1, E.2.2.2.2.2.1, E.2.2.2.2.2.2.1⟩ (hC l D ad cy H.size E.2.2.2.2.2.2.2.2.2.1 hO) ⟨va_cnB (R := Z.1) (s := s) (args := args) (own := M.1.cls) (index := idx) (mc := 0) (ms := 0) n E.2.2.2.2.2.2.1 (zGoodIn hq.1) (ws' := zWs) rfl rfl rfl (E.2.2.2.2.2.2.2.1 _ hl) (E.2.2.2.2.2.2.1 _ hq.1.2.1) hq.1.2.2 hroom, E.2.2.2.2.2.2.1 _ hq.2, trivial⟩ ⟨zBlind, zPre E.2.2.2.2.2.2.2.2.1 E.2.2.2.2.2.2.2.1 hP⟩ rfl (by rw [List.length_map]; exact hn) hL.1 (by show List.map _ _ = _; rw [List.map_append, List.map_reverse]) (lv_room (by rw [zsz_sum]; exact hcat)) hd ⟨hce.1, hce.2⟩
  · have h9 := kk r w' h1 h2 p l e s m args below meth c D ad cy A H1 locs1 la E hX h2 h3 h4 hL
    rw [List.map_append] at h9
    cases r <;> exact h9
theorem r_iret {d : Nat} {post : Option zV → zW → Prop} {a : Int} (hr : M.2.2.2 = some .int) (hd : decode M.2.1 pc = .ok (.ireturn, 1)) (h : post (some (zI a)) w) : zM M (zZm d post) pc ls [zI a] w := by
  intro p l e s m args below meth c D ad cy A H locs la E hX hO hP hS hL
  refine W.iret E.1 E.2.1 (E.2.2.2.1.trans hr) (fun t ht hW => ⟨⟨some (zI a), w, rfl, h, hO, by rw [ht]; exact hP⟩, hS.F ht⟩) hS.2.2 hd (hlocks := E.2.2.2.2.1)
theorem r_zret {d : Nat} {post : Option zV → zW → Prop} {a : Int} (hr : M.2.2.2 = some .boolean) (h01 : a = 0 ∨ a = 1) (hd : decode M.2.1 pc = .ok (.ireturn, 1)) (h : post (some (zI a)) w) : zM M (zZm d post) pc ls [zI a] w := by
  intro p l e s m args below meth c D ad cy A H locs la E hX hO hP hS hL
  refine W.zret E.1 E.2.1 (E.2.2.2.1.trans hr) (by rcases h01 with rfl | rfl <;> decide +kernel) (fun t ht hW => ⟨⟨some (zI a), w, rfl, h, hO, by rw [ht]; exact hP⟩, hS.F ht⟩) hS.2.2 hd (hlocks := E.2.2.2.2.1)
theorem r_lret {d : Nat} {post : Option zV → zW → Prop} {a : Int} (hr : M.2.2.2 = some .long) (hd : decode M.2.1 pc = .ok (.lreturn, 1)) (h : post (some (zJ a)) w) : zM M (zZm d post) pc ls [zJ a] w := by
  intro p l e s m args below meth c D ad cy A H locs la E hX hO hP hS hL
  refine W.lret E.1 E.2.1 (E.2.2.2.1.trans hr) (fun t ht hW => ⟨⟨some (zJ a), w, rfl, h, hO, by rw [ht]; exact hP⟩, hS.F ht⟩) hS.2.2 hd (hlocks := E.2.2.2.2.1)
theorem r_vret {d : Nat} {post : Option zV → zW → Prop} (hr : M.2.2.2 = none) (hd : decode M.2.1 pc = .ok (.return_, 1)) (h : post none w) : zM M (zZm d post) pc ls [] w := by
  intro p l e s m args below meth c D ad cy A H locs la E hX hO hP hS hL
  refine W.vret E.1 E.2.1 (E.2.2.2.1.trans hr) (fun t ht hW => ⟨⟨none, w, rfl, h, hO, by rw [ht]; exact hP⟩, hS.F ht⟩) hS.2.2 hd (hlocks := E.2.2.2.2.1)
end ZH
