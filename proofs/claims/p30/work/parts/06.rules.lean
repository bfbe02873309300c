/-! A METHOD'S WALK over the logical world: zM; its contract: zC; a row an instruction -/
abbrev zFin : Type := List Frame → Array Value → State → va_G → (Nat → Nat) → (Nat → ClassId) → (Nat → Prop) → State → Prop
abbrev zZ : Type := Room × Nat × Nat × zFin × (State → (Nat → Nat) → (Nat → Prop) → Prop)
def zrm (d : Nat) : Room := { frames := d, cells := 0, slots := 0, locals := 40 * d }
def zAA (ad : Nat → Nat) (sz : Nat) : Nat → Prop := fun q => (∃ i, i < zN ∧ q = ad i) ∨ sz ≤ q
def zadOK (ad : Nat → Nat) : Prop := ∀ i j, i < zN → j < zN → ad i = ad j → i = j
def zEnv (M : zK) (p : Program) (s : State) (m : MethodId) (args : Array Value) (meth : Method) (c : Code) (D : va_G) (ad : Nat → Nat) (cy : Nat → ClassId) (A : Nat → Prop) : Prop :=
  p.tables.exec = Jvm.exec ∧ c.code = M.2.1 ∧ c.maxLocals = M.2.2.1 ∧ meth.sig.returnType = M.2.2.2 ∧ meth.locks = false ∧ s.vm.findClass M.1.cls = some m.cls ∧ (∀ w ∈ zWs, w.before args s = true) ∧ (∀ w ∈ zNs, va_Nw w s) ∧ va_K D zCl (zTys cy) s ∧ zadOK ad ∧ (∀ i, i < zN → A (ad i)) ∧ (∀ q, s.heap.size ≤ q → A q)
def zM (M : zK) (Z : zZ) (pc : Nat) (ls : List (Nat × zV)) (st : List zV) (w : zW) : Prop :=
  ∀ (p : Program) (l : Launch) (e : Env) (s : State) (m : MethodId) (args : Array Value) (below : List Frame) (meth : Method) (c : Code) (D : va_G) (ad : Nat → Nat) (cy : Nat → ClassId) (A : Nat → Prop) (H : Heap) (locs : List Loc) (la : Array Slot),
    zEnv M p s m args meth c D ad cy A → Z.2.2.2.2 s ad A → zOk w → va_P D zCl (zwl ad cy w) H → va_S A s.heap H locs → lv_has la M.2.2.1 (ls.map (fun q => (q.1, zcv ad q.2))) →
      W p l e Z.1 s m args below meth c H locs Z.2.1 Z.2.2.1 (Z.2.2.2.1 below args s D ad cy A) (F0 m pc la (st.map (zcv ad)))
def zQ (post : Option zV → zW → Prop) (D : va_G) (ad : Nat → Nat) (cy : Nat → ClassId) (A : Nat → Prop) : Array Value → State → Outcome → State → Prop := fun _ st oc t =>
  (∃ (r : Option zV) (w' : zW), oc = .returned (r.map (zcv ad)) ∧ post r w' ∧ zOk w' ∧ va_P D zCl (zwl ad cy w') t.heap) ∧ va_F A st t
def zZm (d : Nat) (post : Option zV → zW → Prop) : zZ := (zrm d, 0, 0, fun below args s D ad cy A => MQ below (zQ post D ad cy A) args s 0 0 A, fun _ _ _ => True)
def zWM (M : zK) : List Cond := Cond.code M.1 M.2.1 M.2.2.1 M.2.2.2 :: zWs
def zPc (as : List zV) (w : zW) (D : va_G) (ad : Nat → Nat) (cy : Nat → ClassId) (sz : Nat) : Array Value → State → Prop :=
  va_Pc (as.map (zcv ad)) (fun U => U.heap.size = sz ∧ va_P D zCl (zwl ad cy w) U.heap ∧ va_K D zCl (zTys cy) U ∧ (∀ v ∈ zNs, va_Nw v U))
def zC (M : zK) (d : Nat) (as : List zV) (w : zW) (post : Option zV → zW → Prop) : Prop :=
  ∀ (l : Launch) (D : va_G) (ad : Nat → Nat) (cy : Nat → ClassId) (sz : Nat), zadOK ad → zOk w → Met l M.1 (zWM M) (zrm d) (zPc as w D ad cy sz) (zQ post D ad cy (zAA ad sz)) 0 0 (zAA ad sz)
def zrI (P : Int → zW → Prop) : Option zV → zW → Prop := fun r w => ∃ a, r = some (zI a) ∧ P a w
def zrJ (P : Int → zW → Prop) : Option zV → zW → Prop := fun r w => ∃ a, r = some (zJ a) ∧ P a w
def zrV (P : zW → Prop) : Option zV → zW → Prop := fun r w => r = none ∧ P w
def zc : zV → Nat
  | .inl _ => 1
  | .inr (.inl _) => 2
  | .inr (.inr _) => 1
theorem zc_cat (ad : Nat → Nat) (v : zV) : (zcv ad v).category = zc v := by
  rcases v with a | a | a <;> rfl
def zsz : List zV → Nat
  | [] => 0
  | v :: vs => zc v + zsz vs
theorem zsz_sl (ad : Nat → Nat) (as : List zV) : (lg_sl (as.map (zcv ad))).length = zsz as := by
  induction as with
  | nil => rfl
  | cons v vs ih =>
    have e : lg_sl ((v :: vs).map (zcv ad)) = (if (zcv ad v).category = 2 then [.val (zcv ad v), .second] else [.val (zcv ad v)]) ++ lg_sl (vs.map (zcv ad)) := by
      simp [lg_sl]
    rw [e, List.length_append, ih, zc_cat]
    show _ = zc v + zsz vs
    congr 1
    rcases v with a | a | a <;> rfl
theorem zsz_sum (ad : Nat → Nat) (as : List zV) : ((as.map (zcv ad)).map fun v => v.category).sum = zsz as := by
  induction as with
  | nil => rfl
  | cons v vs ih =>
    show ((zcv ad v).category :: _).sum = zc v + zsz vs
    rw [List.sum_cons, ih, zc_cat]
def zargs : Nat → List zV → List (Nat × zV)
  | _, [] => []
  | i, v :: vs => (i, v) :: zargs (if zc v = 2 then i + 2 else i + 1) vs
theorem zargs_map (ad : Nat → Nat) : ∀ (as : List zV) (i : Nat), lv_args i (as.map (zcv ad)) = (zargs i as).map (fun q => (q.1, zcv ad q.2))
  | [], _ => rfl
  | v :: vs, i => by
    show (i, zcv ad v) :: lv_args _ (vs.map (zcv ad)) = (i, zcv ad v) :: (zargs _ vs).map _
    rw [zc_cat, zargs_map ad vs]
theorem zD_wl {ad : Nat → Nat} {A : Nat → Prop} (h1 : zadOK ad) (h2 : ∀ i, i < zN → A (ad i)) (cy : Nat → ClassId) (w : zW) : va_D A (zwl ad cy w) := by
  have key : ∀ (k : Nat) (q : Nat × va_E), (zwl ad cy w)[k]? = some q → k < zN ∧ q.1 = ad k := by
    intro k q hk
    obtain ⟨a, rfl⟩ := zwl_at' hk
    exact ⟨a, rfl⟩
  refine ⟨fun i j p q hi hj hpq => ?_, fun k q hk => ?_⟩
  · obtain ⟨a1, a2⟩ := key i p hi
    obtain ⟨b1, b2⟩ := key j q hj
    exact h1 i j a1 b1 (by rw [← a2, ← b2]; exact hpq)
  · obtain ⟨a1, a2⟩ := key k q hk
    rw [a2]
    exact h2 k a1
set_option maxHeartbeats 4000000 in
theorem zC.of {M : zK} {d : Nat} {as : List zV} {w : zW} {post : Option zV → zW → Prop} (hy : plainName M.1.cls = true) (hlen : zsz as ≤ M.2.2.1) (k : zM M (zZm d post) 0 (zargs 0 as) [] w) : zC M d as w post := by
  intro l D ad cy sz had hO
  refine Met.ofW (cc := M.2.1) (maxL := M.2.2.1) (ret := M.2.2.2) hy rfl ?_
  intro p e s m args below meth c s₁ B hml hv
  obtain ⟨rfl, hsz, hP, hK, hN⟩ := hv
  subst hsz
  have hts := atoms_spec (ws := zWM M) B.pre
  have hl := lv_entry (as.map (zcv ad)) (n := M.2.2.1) (by rw [zsz_sl]; exact hlen)
  rw [lg_entry_eq]
  generalize (lg_sl (as.map (zcv ad)) ++ List.replicate (M.2.2.1 - (lg_sl (as.map (zcv ad))).length) Slot.unset).toArray = la at hl ⊢
  rw [zargs_map] at hl
  exact k p l e s m _ below meth c D ad cy (zAA ad s.heap.size) s.heap [] la ⟨B.exec, B.bytes, hml, B.returns, B.notSynchronized, findClass_of_methodNamed B.named, fun v hv => hts v (List.mem_cons_of_mem _ hv), hN, hK, had, fun i hi => Or.inl ⟨i, hi, rfl⟩, fun q h => Or.inr h⟩ trivial hO hP va_S.rf hl
section ZR
variable {M : zK} {Z : zZ} {pc : Nat} {ls ls' : List (Nat × zV)} {st : List zV} {w : zW}
theorem r_ok (k : zOk w → zM M Z pc ls st w) : zM M Z pc ls st w := by
  intro p l e s m args below meth c D ad cy A H locs la E hX hO hP hS hL
  exact k hO p l e s m args below meth c D ad cy A H locs la E hX hO hP hS hL
theorem r_sub (ks : List Nat) (h : ks.filterMap (fun k => ls[k]?) = ls') (k : zM M Z pc ls' st w) : zM M Z pc ls st w := by
  intro p l e s m args below meth c D ad cy A H locs la E hX hO hP hS hL
  refine k p l e s m args below meth c D ad cy A H locs la E hX hO hP hS (lv_sub hL ks ?_)
  subst h
  unfold lv_pick
  rw [List.map_filterMap]
  congr 1
  funext j
  rw [List.getElem?_map]
theorem r_nrm {x : Int} (k : zM M Z pc ls (zI (znrm x) :: st) w) : zM M Z pc ls (zI x :: st) w := by
  intro p l e s m args below meth c D ad cy A H locs la E hX hO hP hS hL
  have h := k p l e s m args below meth c D ad cy A H locs la E hX hO hP hS hL
  have e : zcv ad (zI (znrm x)) = zcv ad (zI x) := congrArg Value.int (by unfold znrm; exact Int32.ofInt_toInt _)
  rw [List.map_cons, e] at h
  exact h
theorem r_iconst {n : Int} (hd : decode M.2.1 pc = .ok (.iconst n, 1)) (k : zM M Z (pc + 1) ls (zI n :: st) w) : zM M Z pc ls st w := by
  intro p l e s m args below meth c D ad cy A H locs la E hX hO hP hS hL
  exact lv_iconst (v := Int32.ofInt n) E.1 E.2.1 hd rfl (k p l e s m args below meth c D ad cy A H locs la E hX hO hP hS hL)
theorem r_bipush {n : Int} (hd : decode M.2.1 pc = .ok (.bipush n, 2)) (h : -128 ≤ n ∧ n < 128) (k : zM M Z (pc + 2) ls (zI n :: st) w) : zM M Z pc ls st w := by
  intro p l e s m args below meth c D ad cy A H locs la E hX hO hP hS hL
  exact lv_bipush (v := Int32.ofInt n) E.1 E.2.1 hd (by rw [← Int32.ofInt_int8ToInt, Int8.toInt_ofInt_of_le h.1 h.2]) (k p l e s m args below meth c D ad cy A H locs la E hX hO hP hS hL)
theorem r_sipush {n : Int} (hd : decode M.2.1 pc = .ok (.sipush n, 3)) (h : -32768 ≤ n ∧ n < 32768) (k : zM M Z (pc + 3) ls (zI n :: st) w) : zM M Z pc ls st w := by
  intro p l e s m args below meth c D ad cy A H locs la E hX hO hP hS hL
  exact lv_sipush (v := Int32.ofInt n) E.1 E.2.1 hd (by rw [← Int32.ofInt_int16ToInt, Int16.toInt_ofInt_of_le h.1 h.2]) (k p l e s m args below meth c D ad cy A H locs la E hX hO hP hS hL)
theorem r_lconst {n : Fin 2} {v : Int} (hd : decode M.2.1 pc = .ok (.lconst n, 1)) (hv : ((n : Nat) : Int) = v) (k : zM M Z (pc + 1) ls (zJ v :: st) w) : zM M Z pc ls st w := by
  intro p l e s m args below meth c D ad cy A H locs la E hX hO hP hS hL
  exact lv_lconst (v := Int64.ofInt v) E.1 E.2.1 hd (by rw [← hv, Int64.ofInt_eq_ofNat]) (k p l e s m args below meth c D ad cy A H locs la E hX hO hP hS hL)
theorem r_ldc {i : Nat} {v : Int32} {a : Int} (hd : decode M.2.1 pc = .ok (.ldc i, 2)) (hw : Cond.constant M.1.cls i v ∈ zWs) (ha : Int32.ofInt a = v) (k : zM M Z (pc + 2) ls (zI a :: st) w) : zM M Z pc ls st w := by
  intro p l e s m args below meth c D ad cy A H locs la E hX hO hP hS hL
  subst ha
  exact lv_ldc E.1 E.2.1 E.2.2.2.2.2.1 (E.2.2.2.2.2.2.1 _ hw) hd (k p l e s m args below meth c D ad cy A H locs la E hX hO hP hS hL)
theorem r_ldc2 {i : Nat} {v : Int64} {a : Int} (hd : decode M.2.1 pc = .ok (.ldc2_w i, 3)) (hw : Cond.constantLong M.1.cls i v ∈ zWs) (ha : Int64.ofInt a = v) (k : zM M Z (pc + 3) ls (zJ a :: st) w) : zM M Z pc ls st w := by
  intro p l e s m args below meth c D ad cy A H locs la E hX hO hP hS hL
  subst ha
  exact lv_ldc2 E.1 E.2.1 E.2.2.2.2.2.1 (E.2.2.2.2.2.2.1 _ hw) hd (k p l e s m args below meth c D ad cy A H locs la E hX hO hP hS hL)
theorem r_iload_n {q : Fin 4} {x : Int} (i j : Nat) (hd : decode M.2.1 pc = .ok (.iload_n q, 1)) (hi : (q : Nat) = i) (hl : ls[j]? = some (i, zI x)) (k : zM M Z (pc + 1) ls (zI x :: st) w) : zM M Z pc ls st w := by
  intro p l e s m args below meth c D ad cy A H locs la E hX hO hP hS hL
  have hl2 := lv_at hL j (v := zcv ad (zI x)) (i := i) (by rw [List.getElem?_map, hl]; rfl)
  exact lv_iload_n E.1 E.2.1 hd hi hl2 (k p l e s m args below meth c D ad cy A H locs la E hX hO hP hS hL)
theorem r_iload {x : Int} (i j : Nat) (hd : decode M.2.1 pc = .ok (.iload i, 2)) (hl : ls[j]? = some (i, zI x)) (k : zM M Z (pc + 2) ls (zI x :: st) w) : zM M Z pc ls st w := by
  intro p l e s m args below meth c D ad cy A H locs la E hX hO hP hS hL
  have hl2 := lv_at hL j (v := zcv ad (zI x)) (i := i) (by rw [List.getElem?_map, hl]; rfl)
  exact lv_iload E.1 E.2.1 hd hl2 (k p l e s m args below meth c D ad cy A H locs la E hX hO hP hS hL)
theorem r_lload_n {q : Fin 4} {x : Int} (i j : Nat) (hd : decode M.2.1 pc = .ok (.lload_n q, 1)) (hi : (q : Nat) = i) (hl : ls[j]? = some (i, zJ x)) (k : zM M Z (pc + 1) ls (zJ x :: st) w) : zM M Z pc ls st w := by
  intro p l e s m args below meth c D ad cy A H locs la E hX hO hP hS hL
  have hl2 := lv_at hL j (v := zcv ad (zJ x)) (i := i) (by rw [List.getElem?_map, hl]; rfl)
  exact lv_lload_n E.1 E.2.1 hd hi hl2 (k p l e s m args below meth c D ad cy A H locs la E hX hO hP hS hL)
theorem r_lload {x : Int} (i j : Nat) (hd : decode M.2.1 pc = .ok (.lload i, 2)) (hl : ls[j]? = some (i, zJ x)) (k : zM M Z (pc + 2) ls (zJ x :: st) w) : zM M Z pc ls st w := by
  intro p l e s m args below meth c D ad cy A H locs la E hX hO hP hS hL
  have hl2 := lv_at hL j (v := zcv ad (zJ x)) (i := i) (by rw [List.getElem?_map, hl]; rfl)
  exact lv_lload E.1 E.2.1 hd hl2 (k p l e s m args below meth c D ad cy A H locs la E hX hO hP hS hL)
theorem r_aload_n {q : Fin 4} {x : Nat} (i j : Nat) (hd : decode M.2.1 pc = .ok (.aload_n q, 1)) (hi : (q : Nat) = i) (hl : ls[j]? = some (i, zR x)) (k : zM M Z (pc + 1) ls (zR x :: st) w) : zM M Z pc ls st w := by
  intro p l e s m args below meth c D ad cy A H locs la E hX hO hP hS hL
  have hl2 := lv_at hL j (v := zcv ad (zR x)) (i := i) (by rw [List.getElem?_map, hl]; rfl)
  exact lv_aload_n E.1 E.2.1 hd hi hl2 (k p l e s m args below meth c D ad cy A H locs la E hX hO hP hS hL)
theorem r_aload {x : Nat} (i j : Nat) (hd : decode M.2.1 pc = .ok (.aload i, 2)) (hl : ls[j]? = some (i, zR x)) (k : zM M Z (pc + 2) ls (zR x :: st) w) : zM M Z pc ls st w := by
  intro p l e s m args below meth c D ad cy A H locs la E hX hO hP hS hL
  have hl2 := lv_at hL j (v := zcv ad (zR x)) (i := i) (by rw [List.getElem?_map, hl]; rfl)
  exact lv_aload E.1 E.2.1 hd hl2 (k p l e s m args below meth c D ad cy A H locs la E hX hO hP hS hL)
theorem zfl (ad : Nat → Nat) (i : Nat) (l : List (Nat × zV)) : (l.map (fun q => (q.1, zcv ad q.2))).filter (fun q => !(q.1 == i) && !(q.1 + 1 == i && q.2.category == 2)) = (l.filter (fun q => !(q.1 == i) && !(q.1 + 1 == i && zc q.2 == 2))).map (fun q => (q.1, zcv ad q.2)) := by
  rw [List.filter_map]
  congr 1
  apply List.filter_congr
  intro q _
  simp only [Function.comp, zc_cat]
theorem zfl2 (ad : Nat → Nat) (i : Nat) (l : List (Nat × zV)) : (l.map (fun q => (q.1, zcv ad q.2))).filter (fun q => !(q.1 == i) && (!(q.1 == i + 1) && !(q.1 + 1 == i && q.2.category == 2))) = (l.filter (fun q => !(q.1 == i) && (!(q.1 == i + 1) && !(q.1 + 1 == i && zc q.2 == 2)))).map (fun q => (q.1, zcv ad q.2)) := by
  rw [List.filter_map]
  congr 1
  apply List.filter_congr
  intro q _
  simp only [Function.comp, zc_cat]
theorem r_istore_n {q : Fin 4} {x : Int} (i : Nat) (hd : decode M.2.1 pc = .ok (.istore_n q, 1)) (hi : (q : Nat) = i) (hn : i < M.2.2.1) (hl : (i, zI x) :: ls.filter (fun q => !(q.1 == i) && !(q.1 + 1 == i && zc q.2 == 2)) = ls') (k : zM M Z (pc + 1) ls' st w) : zM M Z pc ls (zI x :: st) w := by
  intro p l e s m args below meth c D ad cy A H locs la E hX hO hP hS hL
  refine lv_istore_n E.1 E.2.1 hd (i := i) hi hL hn (lv' := ls'.map (fun q => (q.1, zcv ad q.2))) ?_ (fun la2 hL2 => k p l e s m args below meth c D ad cy A H locs la2 E hX hO hP hS hL2)
  rw [← hl, List.map_cons]
  exact congrArg _ (zfl ad i ls)
theorem r_istore {x : Int} (i : Nat) (hd : decode M.2.1 pc = .ok (.istore i, 2)) (hn : i < M.2.2.1) (hl : (i, zI x) :: ls.filter (fun q => !(q.1 == i) && !(q.1 + 1 == i && zc q.2 == 2)) = ls') (k : zM M Z (pc + 2) ls' st w) : zM M Z pc ls (zI x :: st) w := by
  intro p l e s m args below meth c D ad cy A H locs la E hX hO hP hS hL
  refine lv_istore E.1 E.2.1 hd hL hn (lv' := ls'.map (fun q => (q.1, zcv ad q.2))) ?_ (fun la2 hL2 => k p l e s m args below meth c D ad cy A H locs la2 E hX hO hP hS hL2)
  rw [← hl, List.map_cons]
  exact congrArg _ (zfl ad i ls)
theorem r_astore_n {q : Fin 4} {x : Nat} (i : Nat) (hd : decode M.2.1 pc = .ok (.astore_n q, 1)) (hi : (q : Nat) = i) (hn : i < M.2.2.1) (hl : (i, zR x) :: ls.filter (fun q => !(q.1 == i) && !(q.1 + 1 == i && zc q.2 == 2)) = ls') (k : zM M Z (pc + 1) ls' st w) : zM M Z pc ls (zR x :: st) w := by
  intro p l e s m args below meth c D ad cy A H locs la E hX hO hP hS hL
  refine lv_astore_n E.1 E.2.1 hd (i := i) hi hL hn (lv' := ls'.map (fun q => (q.1, zcv ad q.2))) ?_ (fun la2 hL2 => k p l e s m args below meth c D ad cy A H locs la2 E hX hO hP hS hL2)
  rw [← hl, List.map_cons]
  exact congrArg _ (zfl ad i ls)
theorem r_astore {x : Nat} (i : Nat) (hd : decode M.2.1 pc = .ok (.astore i, 2)) (hn : i < M.2.2.1) (hl : (i, zR x) :: ls.filter (fun q => !(q.1 == i) && !(q.1 + 1 == i && zc q.2 == 2)) = ls') (k : zM M Z (pc + 2) ls' st w) : zM M Z pc ls (zR x :: st) w := by
  intro p l e s m args below meth c D ad cy A H locs la E hX hO hP hS hL
  refine lv_astore E.1 E.2.1 hd hL hn (lv' := ls'.map (fun q => (q.1, zcv ad q.2))) ?_ (fun la2 hL2 => k p l e s m args below meth c D ad cy A H locs la2 E hX hO hP hS hL2)
  rw [← hl, List.map_cons]
  exact congrArg _ (zfl ad i ls)
theorem r_lstore_n {q : Fin 4} {x : Int} (i : Nat) (hd : decode M.2.1 pc = .ok (.lstore_n q, 1)) (hi : (q : Nat) = i) (hn : i + 1 < M.2.2.1) (hl : (i, zJ x) :: ls.filter (fun q => !(q.1 == i) && (!(q.1 == i + 1) && !(q.1 + 1 == i && zc q.2 == 2))) = ls') (k : zM M Z (pc + 1) ls' st w) : zM M Z pc ls (zJ x :: st) w := by
  intro p l e s m args below meth c D ad cy A H locs la E hX hO hP hS hL
  refine lv_lstore_n E.1 E.2.1 hd (i := i) hi hL hn (lv' := ls'.map (fun q => (q.1, zcv ad q.2))) ?_ (fun la2 hL2 => k p l e s m args below meth c D ad cy A H locs la2 E hX hO hP hS hL2)
  rw [← hl, List.map_cons]
  exact congrArg _ (zfl2 ad i ls)
theorem r_lstore {x : Int} (i : Nat) (hd : decode M.2.1 pc = .ok (.lstore i, 2)) (hn : i + 1 < M.2.2.1) (hl : (i, zJ x) :: ls.filter (fun q => !(q.1 == i) && (!(q.1 == i + 1) && !(q.1 + 1 == i && zc q.2 == 2))) = ls') (k : zM M Z (pc + 2) ls' st w) : zM M Z pc ls (zJ x :: st) w := by
  intro p l e s m args below meth c D ad cy A H locs la E hX hO hP hS hL
  refine lv_lstore E.1 E.2.1 hd hL hn (lv' := ls'.map (fun q => (q.1, zcv ad q.2))) ?_ (fun la2 hL2 => k p l e s m args below meth c D ad cy A H locs la2 E hX hO hP hS hL2)
  rw [← hl, List.map_cons]
  exact congrArg _ (zfl2 ad i ls)
theorem r_iinc {x n : Int} (i j : Nat) (hd : decode M.2.1 pc = .ok (.iinc i n, 3)) (hj : ls[j]? = some (i, zI x)) (hn : i < M.2.2.1) (hl : (i, zI (x + n)) :: ls.filter (fun q => !(q.1 == i) && !(q.1 + 1 == i && zc q.2 == 2)) = ls') (k : zM M Z (pc + 3) ls' st w) : zM M Z pc ls st w := by
  intro p l e s m args below meth c D ad cy A H locs la E hX hO hP hS hL
  refine lv_iinc (k := j) (x := Int32.ofInt x) (v := Int32.ofInt (x + n)) E.1 E.2.1 hd hL (by rw [List.getElem?_map, hj]; rfl) (Int32.ofInt_add x n).symm hn (lv' := ls'.map (fun q => (q.1, zcv ad q.2))) ?_ (fun la2 hL2 => k p l e s m args below meth c D ad cy A H locs la2 E hX hO hP hS hL2)
  rw [← hl, List.map_cons]
  exact congrArg _ (zfl ad i ls)
theorem r_nmI {x : Int} (k : ∀ y : Int, y = x → zM M Z pc ls (zI y :: st) w) : zM M Z pc ls (zI x :: st) w := by
  intro p l e s m args below meth c D ad cy A H locs la E hX hO hP hS hL
  exact k x rfl p l e s m args below meth c D ad cy A H locs la E hX hO hP hS hL
theorem r_nmJ {x : Int} (k : ∀ y : Int, y = x → zM M Z pc ls (zJ y :: st) w) : zM M Z pc ls (zJ x :: st) w := by
  intro p l e s m args below meth c D ad cy A H locs la E hX hO hP hS hL
  exact k x rfl p l e s m args below meth c D ad cy A H locs la E hX hO hP hS hL
theorem r_iadd {x y : Int} (hd : decode M.2.1 pc = .ok (.iadd, 1)) (k : zM M Z (pc + 1) ls (zI (x + y) :: st) w) : zM M Z pc ls (zI y :: zI x :: st) w := by
  intro p l e s m args below meth c D ad cy A H locs la E hX hO hP hS hL
  refine lv_iadd E.1 E.2.1 hd ?_
  rw [← Int32.ofInt_add]
  exact k p l e s m args below meth c D ad cy A H locs la E hX hO hP hS hL
theorem r_isub {x y : Int} (hd : decode M.2.1 pc = .ok (.isub, 1)) (k : zM M Z (pc + 1) ls (zI (x - y) :: st) w) : zM M Z pc ls (zI y :: zI x :: st) w := by
  intro p l e s m args below meth c D ad cy A H locs la E hX hO hP hS hL
  refine lv_isub E.1 E.2.1 hd ?_
  rw [← Int32.ofInt_sub]
  exact k p l e s m args below meth c D ad cy A H locs la E hX hO hP hS hL
theorem r_imul {x y : Int} (hd : decode M.2.1 pc = .ok (.imul, 1)) (k : zM M Z (pc + 1) ls (zI (x * y) :: st) w) : zM M Z pc ls (zI y :: zI x :: st) w := by
  intro p l e s m args below meth c D ad cy A H locs la E hX hO hP hS hL
  refine lv_imul E.1 E.2.1 hd ?_
  rw [← Int32.ofInt_mul]
  exact k p l e s m args below meth c D ad cy A H locs la E hX hO hP hS hL
theorem r_ladd {x y : Int} (hd : decode M.2.1 pc = .ok (.ladd, 1)) (k : zM M Z (pc + 1) ls (zJ (x + y) :: st) w) : zM M Z pc ls (zJ y :: zJ x :: st) w := by
  intro p l e s m args below meth c D ad cy A H locs la E hX hO hP hS hL
  refine lv_ladd E.1 E.2.1 hd ?_
  rw [← Int64.ofInt_add]
  exact k p l e s m args below meth c D ad cy A H locs la E hX hO hP hS hL
theorem r_lsub {x y : Int} (hd : decode M.2.1 pc = .ok (.lsub, 1)) (k : zM M Z (pc + 1) ls (zJ (x - y) :: st) w) : zM M Z pc ls (zJ y :: zJ x :: st) w := by
  intro p l e s m args below meth c D ad cy A H locs la E hX hO hP hS hL
  refine lv_lsub E.1 E.2.1 hd ?_
  rw [← Int64.ofInt_sub]
  exact k p l e s m args below meth c D ad cy A H locs la E hX hO hP hS hL
theorem r_lmul {x y : Int} (hd : decode M.2.1 pc = .ok (.lmul, 1)) (k : zM M Z (pc + 1) ls (zJ (x * y) :: st) w) : zM M Z pc ls (zJ y :: zJ x :: st) w := by
  intro p l e s m args below meth c D ad cy A H locs la E hX hO hP hS hL
  refine lv_lmul E.1 E.2.1 hd ?_
  rw [← Int64.ofInt_mul]
  exact k p l e s m args below meth c D ad cy A H locs la E hX hO hP hS hL
theorem r_idiv {x y : Int} (hd : decode M.2.1 pc = .ok (.idiv, 1)) (hx : zin x) (h0 : 0 ≤ x) (hy : zin y) (h1 : 0 < y) (k : zM M Z (pc + 1) ls (zI (x / y) :: st) w) : zM M Z pc ls (zI y :: zI x :: st) w := by
  intro p l e s m args below meth c D ad cy A H locs la E hX hO hP hS hL
  refine lv_idiv E.1 E.2.1 hd (fun h0 => by
    have h1 := congrArg Int32.toInt h0
    rw [zi_to hy] at h1
    have h2 : (0 : Int32).toInt = 0 := by decide +kernel
    rw [h2] at h1
    omega) ?_
  rw [zi_div hx h0 hy h1]
  exact k p l e s m args below meth c D ad cy A H locs la E hX hO hP hS hL
theorem r_irem {x y : Int} (hd : decode M.2.1 pc = .ok (.irem, 1)) (hx : zin x) (h0 : 0 ≤ x) (hy : zin y) (h1 : 0 < y) (k : zM M Z (pc + 1) ls (zI (x % y) :: st) w) : zM M Z pc ls (zI y :: zI x :: st) w := by
  intro p l e s m args below meth c D ad cy A H locs la E hX hO hP hS hL
  refine lv_irem E.1 E.2.1 hd (fun h0 => by
    have h1 := congrArg Int32.toInt h0
    rw [zi_to hy] at h1
    have h2 : (0 : Int32).toInt = 0 := by decide +kernel
    rw [h2] at h1
    omega) ?_
  rw [zi_rem hx h0 hy h1]
  exact k p l e s m args below meth c D ad cy A H locs la E hX hO hP hS hL
theorem r_ldiv {x y : Int} (hd : decode M.2.1 pc = .ok (.ldiv, 1)) (hx : zinL x) (h0 : 0 ≤ x) (hy : zinL y) (h1 : 0 < y) (k : zM M Z (pc + 1) ls (zJ (x / y) :: st) w) : zM M Z pc ls (zJ y :: zJ x :: st) w := by
  intro p l e s m args below meth c D ad cy A H locs la E hX hO hP hS hL
  refine lv_ldiv E.1 E.2.1 hd (fun h0 => by
    have h1 := congrArg Int64.toInt h0
    rw [zl_to hy] at h1
    have h2 : (0 : Int64).toInt = 0 := by decide +kernel
    rw [h2] at h1
    omega) ?_
  rw [zl_div hx h0 hy h1]
  exact k p l e s m args below meth c D ad cy A H locs la E hX hO hP hS hL
theorem r_lrem {x y : Int} (hd : decode M.2.1 pc = .ok (.lrem, 1)) (hx : zinL x) (h0 : 0 ≤ x) (hy : zinL y) (h1 : 0 < y) (k : zM M Z (pc + 1) ls (zJ (x % y) :: st) w) : zM M Z pc ls (zJ y :: zJ x :: st) w := by
  intro p l e s m args below meth c D ad cy A H locs la E hX hO hP hS hL
  refine lv_lrem E.1 E.2.1 hd (fun h0 => by
    have h1 := congrArg Int64.toInt h0
    rw [zl_to hy] at h1
    have h2 : (0 : Int64).toInt = 0 := by decide +kernel
    rw [h2] at h1
    omega) ?_
  rw [zl_rem hx h0 hy h1]
  exact k p l e s m args below meth c D ad cy A H locs la E hX hO hP hS hL
theorem r_ishl {x y : Int} (hd : decode M.2.1 pc = .ok (.ishl, 1)) (k : zM M Z (pc + 1) ls (zI (zshl x y) :: st) w) : zM M Z pc ls (zI y :: zI x :: st) w := by
  intro p l e s m args below meth c D ad cy A H locs la E hX hO hP hS hL
  refine lv_ishl E.1 E.2.1 hd ?_
  have h := k p l e s m args below meth c D ad cy A H locs la E hX hO hP hS hL
  rw [List.map_cons, show zcv ad (zI (zshl x y)) = .int _ from congrArg Value.int (show Int32.ofInt (zshl x y) = _ by unfold zshl; exact Int32.ofInt_toInt _)] at h
  exact h
theorem r_ishr {x y : Int} (hd : decode M.2.1 pc = .ok (.ishr, 1)) (k : zM M Z (pc + 1) ls (zI (zshr x y) :: st) w) : zM M Z pc ls (zI y :: zI x :: st) w := by
  intro p l e s m args below meth c D ad cy A H locs la E hX hO hP hS hL
  refine lv_ishr E.1 E.2.1 hd ?_
  have h := k p l e s m args below meth c D ad cy A H locs la E hX hO hP hS hL
  rw [List.map_cons, show zcv ad (zI (zshr x y)) = .int _ from congrArg Value.int (show Int32.ofInt (zshr x y) = _ by unfold zshr; exact Int32.ofInt_toInt _)] at h
  exact h
theorem r_ior {x y : Int} (hd : decode M.2.1 pc = .ok (.ior, 1)) (k : zM M Z (pc + 1) ls (zI (zior x y) :: st) w) : zM M Z pc ls (zI y :: zI x :: st) w := by
  intro p l e s m args below meth c D ad cy A H locs la E hX hO hP hS hL
  refine lv_ior E.1 E.2.1 hd ?_
  have h := k p l e s m args below meth c D ad cy A H locs la E hX hO hP hS hL
  rw [List.map_cons, show zcv ad (zI (zior x y)) = .int _ from congrArg Value.int (show Int32.ofInt (zior x y) = _ by unfold zior; exact Int32.ofInt_toInt _)] at h
  exact h
theorem r_iand {x y : Int} (hd : decode M.2.1 pc = .ok (.iand, 1)) (k : zM M Z (pc + 1) ls (zI (ziand x y) :: st) w) : zM M Z pc ls (zI y :: zI x :: st) w := by
  intro p l e s m args below meth c D ad cy A H locs la E hX hO hP hS hL
  refine lv_iand E.1 E.2.1 hd ?_
  have h := k p l e s m args below meth c D ad cy A H locs la E hX hO hP hS hL
  rw [List.map_cons, show zcv ad (zI (ziand x y)) = .int _ from congrArg Value.int (show Int32.ofInt (ziand x y) = _ by unfold ziand; exact Int32.ofInt_toInt _)] at h
  exact h
theorem r_i2b {x : Int} (hd : decode M.2.1 pc = .ok (.i2b, 1)) (k : zM M Z (pc + 1) ls (zI (zi2b x) :: st) w) : zM M Z pc ls (zI x :: st) w := by
  intro p l e s m args below meth c D ad cy A H locs la E hX hO hP hS hL
  refine lv_i2b (v := Int32.ofInt (zi2b x)) E.1 E.2.1 hd (by unfold zi2b; exact (Int32.ofInt_toInt _).symm) ?_
  exact k p l e s m args below meth c D ad cy A H locs la E hX hO hP hS hL
theorem r_i2s {x : Int} (hd : decode M.2.1 pc = .ok (.i2s, 1)) (k : zM M Z (pc + 1) ls (zI (zi2s x) :: st) w) : zM M Z pc ls (zI x :: st) w := by
  intro p l e s m args below meth c D ad cy A H locs la E hX hO hP hS hL
  refine lv_i2s (v := Int32.ofInt (zi2s x)) E.1 E.2.1 hd (by unfold zi2s; exact (Int32.ofInt_toInt _).symm) ?_
  exact k p l e s m args below meth c D ad cy A H locs la E hX hO hP hS hL
theorem r_i2l {x : Int} (hd : decode M.2.1 pc = .ok (.i2l, 1)) (hx : zin x) (k : zM M Z (pc + 1) ls (zJ x :: st) w) : zM M Z pc ls (zI x :: st) w := by
  intro p l e s m args below meth c D ad cy A H locs la E hX hO hP hS hL
  exact lv_i2l (v := Int64.ofInt x) E.1 E.2.1 hd (zi_wide hx) (k p l e s m args below meth c D ad cy A H locs la E hX hO hP hS hL)
theorem r_dup {v : zV} (hd : decode M.2.1 pc = .ok (.dup, 1)) (hv : zc v = 1) (k : zM M Z (pc + 1) ls (v :: v :: st) w) : zM M Z pc ls (v :: st) w := by
  intro p l e s m args below meth c D ad cy A H locs la E hX hO hP hS hL
  exact lv_dup E.1 E.2.1 hd (by rw [zc_cat]; exact hv) (k p l e s m args below meth c D ad cy A H locs la E hX hO hP hS hL)
theorem r_if_eq {x : Int} {off : Int} (tgt : Nat) (hd : decode M.2.1 pc = .ok (.ifCond .eq off, 3)) (ht : (pc : Int) + off = (tgt : Int)) (hx : zin x) (kt : x = 0 → zM M Z tgt ls st w) (kf : ¬ x = 0 → zM M Z (pc + 3) ls st w) : zM M Z pc ls (zI x :: st) w := by
  intro p l e s m args below meth c D ad cy A H locs la E hX hO hP hS hL
  have I := zi_eq hx (⟨by decide, by decide⟩ : zin 0)
  exact lv_if_eq (tgt := tgt) E.1 E.2.1 hd ht (fun g => kt (I.mp g) p l e s m args below meth c D ad cy A H locs la E hX hO hP hS hL) (fun g => kf (fun q => g (I.mpr q)) p l e s m args below meth c D ad cy A H locs la E hX hO hP hS hL)
theorem r_ic_eq {x y : Int} {off : Int} (tgt : Nat) (hd : decode M.2.1 pc = .ok (.if_icmp .eq off, 3)) (ht : (pc : Int) + off = (tgt : Int)) (hx : zin x) (hy : zin y) (kt : x = y → zM M Z tgt ls st w) (kf : ¬ x = y → zM M Z (pc + 3) ls st w) : zM M Z pc ls (zI y :: zI x :: st) w := by
  intro p l e s m args below meth c D ad cy A H locs la E hX hO hP hS hL
  have I := zi_eq hx hy
  exact lv_icmp_eq (tgt := tgt) E.1 E.2.1 hd ht (fun g => kt (I.mp g) p l e s m args below meth c D ad cy A H locs la E hX hO hP hS hL) (fun g => kf (fun q => g (I.mpr q)) p l e s m args below meth c D ad cy A H locs la E hX hO hP hS hL)
theorem r_lc_eq {x y : Int} {off : Int} (tgt : Nat) (hd0 : decode M.2.1 pc = .ok (.lcmp, 1)) (hd : decode M.2.1 (pc + 1) = .ok (.ifCond .eq off, 3)) (ht : ((pc + 1 : Nat) : Int) + off = (tgt : Int)) (hx : zinL x) (hy : zinL y) (kt : x = y → zM M Z tgt ls st w) (kf : ¬ x = y → zM M Z (pc + 4) ls st w) : zM M Z pc ls (zJ y :: zJ x :: st) w := by
  intro p l e s m args below meth c D ad cy A H locs la E hX hO hP hS hL
  have I := (lg_cmp_eq (Int64.ofInt x) (Int64.ofInt y)).trans (zl_eq hx hy)
  refine W.lcmp E.1 E.2.1 hd0 ?_
  exact lv_if_eq (tgt := tgt) E.1 E.2.1 hd ht (fun g => kt (I.mp g) p l e s m args below meth c D ad cy A H locs la E hX hO hP hS hL) (fun g => kf (fun q => g (I.mpr q)) p l e s m args below meth c D ad cy A H locs la E hX hO hP hS hL)
theorem r_if_ne {x : Int} {off : Int} (tgt : Nat) (hd : decode M.2.1 pc = .ok (.ifCond .ne off, 3)) (ht : (pc : Int) + off = (tgt : Int)) (hx : zin x) (kt : ¬ x = 0 → zM M Z tgt ls st w) (kf : x = 0 → zM M Z (pc + 3) ls st w) : zM M Z pc ls (zI x :: st) w := by
  intro p l e s m args below meth c D ad cy A H locs la E hX hO hP hS hL
  have I := zi_eq hx (⟨by decide, by decide⟩ : zin 0)
  exact lv_if_ne (tgt := tgt) E.1 E.2.1 hd ht (fun g => kt (fun q => g (I.mpr q)) p l e s m args below meth c D ad cy A H locs la E hX hO hP hS hL) (fun g => kf (I.mp g) p l e s m args below meth c D ad cy A H locs la E hX hO hP hS hL)
theorem r_ic_ne {x y : Int} {off : Int} (tgt : Nat) (hd : decode M.2.1 pc = .ok (.if_icmp .ne off, 3)) (ht : (pc : Int) + off = (tgt : Int)) (hx : zin x) (hy : zin y) (kt : ¬ x = y → zM M Z tgt ls st w) (kf : x = y → zM M Z (pc + 3) ls st w) : zM M Z pc ls (zI y :: zI x :: st) w := by
  intro p l e s m args below meth c D ad cy A H locs la E hX hO hP hS hL
  have I := zi_eq hx hy
  exact lv_icmp_ne (tgt := tgt) E.1 E.2.1 hd ht (fun g => kt (fun q => g (I.mpr q)) p l e s m args below meth c D ad cy A H locs la E hX hO hP hS hL) (fun g => kf (I.mp g) p l e s m args below meth c D ad cy A H locs la E hX hO hP hS hL)
theorem r_lc_ne {x y : Int} {off : Int} (tgt : Nat) (hd0 : decode M.2.1 pc = .ok (.lcmp, 1)) (hd : decode M.2.1 (pc + 1) = .ok (.ifCond .ne off, 3)) (ht : ((pc + 1 : Nat) : Int) + off = (tgt : Int)) (hx : zinL x) (hy : zinL y) (kt : ¬ x = y → zM M Z tgt ls st w) (kf : x = y → zM M Z (pc + 4) ls st w) : zM M Z pc ls (zJ y :: zJ x :: st) w := by
  intro p l e s m args below meth c D ad cy A H locs la E hX hO hP hS hL
  have I := (lg_cmp_eq (Int64.ofInt x) (Int64.ofInt y)).trans (zl_eq hx hy)
  refine W.lcmp E.1 E.2.1 hd0 ?_
  exact lv_if_ne (tgt := tgt) E.1 E.2.1 hd ht (fun g => kt (fun q => g (I.mpr q)) p l e s m args below meth c D ad cy A H locs la E hX hO hP hS hL) (fun g => kf (I.mp g) p l e s m args below meth c D ad cy A H locs la E hX hO hP hS hL)
theorem r_if_lt {x : Int} {off : Int} (tgt : Nat) (hd : decode M.2.1 pc = .ok (.ifCond .lt off, 3)) (ht : (pc : Int) + off = (tgt : Int)) (hx : zin x) (kt : x < 0 → zM M Z tgt ls st w) (kf : ¬ x < 0 → zM M Z (pc + 3) ls st w) : zM M Z pc ls (zI x :: st) w := by
  intro p l e s m args below meth c D ad cy A H locs la E hX hO hP hS hL
  have I := zi_lt hx (⟨by decide, by decide⟩ : zin 0)
  exact lv_if_lt (tgt := tgt) E.1 E.2.1 hd ht (fun g => kt (I.mp g) p l e s m args below meth c D ad cy A H locs la E hX hO hP hS hL) (fun g => kf (fun q => g (I.mpr q)) p l e s m args below meth c D ad cy A H locs la E hX hO hP hS hL)
theorem r_ic_lt {x y : Int} {off : Int} (tgt : Nat) (hd : decode M.2.1 pc = .ok (.if_icmp .lt off, 3)) (ht : (pc : Int) + off = (tgt : Int)) (hx : zin x) (hy : zin y) (kt : x < y → zM M Z tgt ls st w) (kf : ¬ x < y → zM M Z (pc + 3) ls st w) : zM M Z pc ls (zI y :: zI x :: st) w := by
  intro p l e s m args below meth c D ad cy A H locs la E hX hO hP hS hL
  have I := zi_lt hx hy
  exact lv_icmp_lt (tgt := tgt) E.1 E.2.1 hd ht (fun g => kt (I.mp g) p l e s m args below meth c D ad cy A H locs la E hX hO hP hS hL) (fun g => kf (fun q => g (I.mpr q)) p l e s m args below meth c D ad cy A H locs la E hX hO hP hS hL)
theorem r_lc_lt {x y : Int} {off : Int} (tgt : Nat) (hd0 : decode M.2.1 pc = .ok (.lcmp, 1)) (hd : decode M.2.1 (pc + 1) = .ok (.ifCond .lt off, 3)) (ht : ((pc + 1 : Nat) : Int) + off = (tgt : Int)) (hx : zinL x) (hy : zinL y) (kt : x < y → zM M Z tgt ls st w) (kf : ¬ x < y → zM M Z (pc + 4) ls st w) : zM M Z pc ls (zJ y :: zJ x :: st) w := by
  intro p l e s m args below meth c D ad cy A H locs la E hX hO hP hS hL
  have I := (lg_cmp_lt (Int64.ofInt x) (Int64.ofInt y)).trans (zl_lt hx hy)
  refine W.lcmp E.1 E.2.1 hd0 ?_
  exact lv_if_lt (tgt := tgt) E.1 E.2.1 hd ht (fun g => kt (I.mp g) p l e s m args below meth c D ad cy A H locs la E hX hO hP hS hL) (fun g => kf (fun q => g (I.mpr q)) p l e s m args below meth c D ad cy A H locs la E hX hO hP hS hL)
theorem r_if_ge {x : Int} {off : Int} (tgt : Nat) (hd : decode M.2.1 pc = .ok (.ifCond .ge off, 3)) (ht : (pc : Int) + off = (tgt : Int)) (hx : zin x) (kt : 0 ≤ x → zM M Z tgt ls st w) (kf : ¬ 0 ≤ x → zM M Z (pc + 3) ls st w) : zM M Z pc ls (zI x :: st) w := by
  intro p l e s m args below meth c D ad cy A H locs la E hX hO hP hS hL
  have I := zi_le (⟨by decide, by decide⟩ : zin 0) hx
  exact lv_if_ge (tgt := tgt) E.1 E.2.1 hd ht (fun g => kt (I.mp g) p l e s m args below meth c D ad cy A H locs la E hX hO hP hS hL) (fun g => kf (fun q => g (I.mpr q)) p l e s m args below meth c D ad cy A H locs la E hX hO hP hS hL)
theorem r_ic_ge {x y : Int} {off : Int} (tgt : Nat) (hd : decode M.2.1 pc = .ok (.if_icmp .ge off, 3)) (ht : (pc : Int) + off = (tgt : Int)) (hx : zin x) (hy : zin y) (kt : y ≤ x → zM M Z tgt ls st w) (kf : ¬ y ≤ x → zM M Z (pc + 3) ls st w) : zM M Z pc ls (zI y :: zI x :: st) w := by
  intro p l e s m args below meth c D ad cy A H locs la E hX hO hP hS hL
  have I := zi_le hy hx
  exact lv_icmp_ge (tgt := tgt) E.1 E.2.1 hd ht (fun g => kt (I.mp g) p l e s m args below meth c D ad cy A H locs la E hX hO hP hS hL) (fun g => kf (fun q => g (I.mpr q)) p l e s m args below meth c D ad cy A H locs la E hX hO hP hS hL)
theorem r_lc_ge {x y : Int} {off : Int} (tgt : Nat) (hd0 : decode M.2.1 pc = .ok (.lcmp, 1)) (hd : decode M.2.1 (pc + 1) = .ok (.ifCond .ge off, 3)) (ht : ((pc + 1 : Nat) : Int) + off = (tgt : Int)) (hx : zinL x) (hy : zinL y) (kt : y ≤ x → zM M Z tgt ls st w) (kf : ¬ y ≤ x → zM M Z (pc + 4) ls st w) : zM M Z pc ls (zJ y :: zJ x :: st) w := by
  intro p l e s m args below meth c D ad cy A H locs la E hX hO hP hS hL
  have I := (lg_cmp_ge (Int64.ofInt x) (Int64.ofInt y)).trans (zl_le hy hx)
  refine W.lcmp E.1 E.2.1 hd0 ?_
  exact lv_if_ge (tgt := tgt) E.1 E.2.1 hd ht (fun g => kt (I.mp g) p l e s m args below meth c D ad cy A H locs la E hX hO hP hS hL) (fun g => kf (fun q => g (I.mpr q)) p l e s m args below meth c D ad cy A H locs la E hX hO hP hS hL)
theorem r_if_gt {x : Int} {off : Int} (tgt : Nat) (hd : decode M.2.1 pc = .ok (.ifCond .gt off, 3)) (ht : (pc : Int) + off = (tgt : Int)) (hx : zin x) (kt : 0 < x → zM M Z tgt ls st w) (kf : ¬ 0 < x → zM M Z (pc + 3) ls st w) : zM M Z pc ls (zI x :: st) w := by
  intro p l e s m args below meth c D ad cy A H locs la E hX hO hP hS hL
  have I := zi_lt (⟨by decide, by decide⟩ : zin 0) hx
  exact lv_if_gt (tgt := tgt) E.1 E.2.1 hd ht (fun g => kt (I.mp g) p l e s m args below meth c D ad cy A H locs la E hX hO hP hS hL) (fun g => kf (fun q => g (I.mpr q)) p l e s m args below meth c D ad cy A H locs la E hX hO hP hS hL)
theorem r_ic_gt {x y : Int} {off : Int} (tgt : Nat) (hd : decode M.2.1 pc = .ok (.if_icmp .gt off, 3)) (ht : (pc : Int) + off = (tgt : Int)) (hx : zin x) (hy : zin y) (kt : y < x → zM M Z tgt ls st w) (kf : ¬ y < x → zM M Z (pc + 3) ls st w) : zM M Z pc ls (zI y :: zI x :: st) w := by
  intro p l e s m args below meth c D ad cy A H locs la E hX hO hP hS hL
  have I := zi_lt hy hx
  exact lv_icmp_gt (tgt := tgt) E.1 E.2.1 hd ht (fun g => kt (I.mp g) p l e s m args below meth c D ad cy A H locs la E hX hO hP hS hL) (fun g => kf (fun q => g (I.mpr q)) p l e s m args below meth c D ad cy A H locs la E hX hO hP hS hL)
theorem r_lc_gt {x y : Int} {off : Int} (tgt : Nat) (hd0 : decode M.2.1 pc = .ok (.lcmp, 1)) (hd : decode M.2.1 (pc + 1) = .ok (.ifCond .gt off, 3)) (ht : ((pc + 1 : Nat) : Int) + off = (tgt : Int)) (hx : zinL x) (hy : zinL y) (kt : y < x → zM M Z tgt ls st w) (kf : ¬ y < x → zM M Z (pc + 4) ls st w) : zM M Z pc ls (zJ y :: zJ x :: st) w := by
  intro p l e s m args below meth c D ad cy A H locs la E hX hO hP hS hL
  have I := (lg_cmp_gt (Int64.ofInt x) (Int64.ofInt y)).trans (zl_lt hy hx)
  refine W.lcmp E.1 E.2.1 hd0 ?_
  exact lv_if_gt (tgt := tgt) E.1 E.2.1 hd ht (fun g => kt (I.mp g) p l e s m args below meth c D ad cy A H locs la E hX hO hP hS hL) (fun g => kf (fun q => g (I.mpr q)) p l e s m args below meth c D ad cy A H locs la E hX hO hP hS hL)
theorem r_if_le {x : Int} {off : Int} (tgt : Nat) (hd : decode M.2.1 pc = .ok (.ifCond .le off, 3)) (ht : (pc : Int) + off = (tgt : Int)) (hx : zin x) (kt : x ≤ 0 → zM M Z tgt ls st w) (kf : ¬ x ≤ 0 → zM M Z (pc + 3) ls st w) : zM M Z pc ls (zI x :: st) w := by
  intro p l e s m args below meth c D ad cy A H locs la E hX hO hP hS hL
  have I := zi_le hx (⟨by decide, by decide⟩ : zin 0)
  exact lv_if_le (tgt := tgt) E.1 E.2.1 hd ht (fun g => kt (I.mp g) p l e s m args below meth c D ad cy A H locs la E hX hO hP hS hL) (fun g => kf (fun q => g (I.mpr q)) p l e s m args below meth c D ad cy A H locs la E hX hO hP hS hL)
theorem r_ic_le {x y : Int} {off : Int} (tgt : Nat) (hd : decode M.2.1 pc = .ok (.if_icmp .le off, 3)) (ht : (pc : Int) + off = (tgt : Int)) (hx : zin x) (hy : zin y) (kt : x ≤ y → zM M Z tgt ls st w) (kf : ¬ x ≤ y → zM M Z (pc + 3) ls st w) : zM M Z pc ls (zI y :: zI x :: st) w := by
  intro p l e s m args below meth c D ad cy A H locs la E hX hO hP hS hL
  have I := zi_le hx hy
  exact lv_icmp_le (tgt := tgt) E.1 E.2.1 hd ht (fun g => kt (I.mp g) p l e s m args below meth c D ad cy A H locs la E hX hO hP hS hL) (fun g => kf (fun q => g (I.mpr q)) p l e s m args below meth c D ad cy A H locs la E hX hO hP hS hL)
theorem r_lc_le {x y : Int} {off : Int} (tgt : Nat) (hd0 : decode M.2.1 pc = .ok (.lcmp, 1)) (hd : decode M.2.1 (pc + 1) = .ok (.ifCond .le off, 3)) (ht : ((pc + 1 : Nat) : Int) + off = (tgt : Int)) (hx : zinL x) (hy : zinL y) (kt : x ≤ y → zM M Z tgt ls st w) (kf : ¬ x ≤ y → zM M Z (pc + 4) ls st w) : zM M Z pc ls (zJ y :: zJ x :: st) w := by
  intro p l e s m args below meth c D ad cy A H locs la E hX hO hP hS hL
  have I := (lg_cmp_le (Int64.ofInt x) (Int64.ofInt y)).trans (zl_le hx hy)
  refine W.lcmp E.1 E.2.1 hd0 ?_
  exact lv_if_le (tgt := tgt) E.1 E.2.1 hd ht (fun g => kt (I.mp g) p l e s m args below meth c D ad cy A H locs la E hX hO hP hS hL) (fun g => kf (fun q => g (I.mpr q)) p l e s m args below meth c D ad cy A H locs la E hX hO hP hS hL)
theorem r_goto {off : Int} (tgt : Nat) (hd : decode M.2.1 pc = .ok (.goto off, 3)) (ht : (pc : Int) + off = (tgt : Int)) (k : zM M Z tgt ls st w) : zM M Z pc ls st w := by
  intro p l e s m args below meth c D ad cy A H locs la E hX hO hP hS hL
  exact lv_goto (tgt := tgt) E.1 E.2.1 hd ht (k p l e s m args below meth c D ad cy A H locs la E hX hO hP hS hL)
theorem r_tableOut {dflt lo hi : Int} {offs : Array Int} {len : Nat} {x : Int} (tgt : Nat) (hd : decode M.2.1 pc = .ok (.tableswitch dflt lo hi offs, len)) (hx : zin x) (h : x < lo ∨ hi < x) (ht : (pc : Int) + dflt = (tgt : Int)) (k : zM M Z tgt ls st w) : zM M Z pc ls (zI x :: st) w := by
  intro p l e s m args below meth c D ad cy A H locs la E hX hO hP hS hL
  exact lv_tableOut (tgt := tgt) E.1 E.2.1 hd (by rw [zi_to hx]; exact h) ht (k p l e s m args below meth c D ad cy A H locs la E hX hO hP hS hL)
theorem r_tableIn {dflt lo hi off : Int} {offs : Array Int} {len : Nat} {x : Int} (tgt : Nat) (hd : decode M.2.1 pc = .ok (.tableswitch dflt lo hi offs, len)) (hx : zin x) (h1 : ¬ x < lo) (h2 : ¬ hi < x) (ho : offs[(x - lo).toNat]? = some off) (ht : (pc : Int) + off = (tgt : Int)) (k : zM M Z tgt ls st w) : zM M Z pc ls (zI x :: st) w := by
  intro p l e s m args below meth c D ad cy A H locs la E hX hO hP hS hL
  exact lv_tableIn (tgt := tgt) (off := off) E.1 E.2.1 hd (by rw [zi_to hx]; exact h1) (by rw [zi_to hx]; exact h2) (by rw [zi_to hx]; exact ho) ht (k p l e s m args below meth c D ad cy A H locs la E hX hO hP hS hL)
theorem r_lookup {dflt off : Int} {ps : Array (Int × Int)} {len : Nat} {x : Int} (tgt : Nat) (hd : decode M.2.1 pc = .ok (.lookupswitch dflt ps, len)) (hx : zin x) (hp : (ps.toList.zip (ps.toList.drop 1)).all (fun (a, next) => a.1 < next.1) = true) (ho : Op.lookupswitch.offset ps.toList dflt x = off) (ht : (pc : Int) + off = (tgt : Int)) (k : zM M Z tgt ls st w) : zM M Z pc ls (zI x :: st) w := by
  intro p l e s m args below meth c D ad cy A H locs la E hX hO hP hS hL
  exact lv_lookup (tgt := tgt) (off := off) E.1 E.2.1 hd hp (by rw [zi_to hx]; exact ho) ht (k p l e s m args below meth c D ad cy A H locs la E hX hO hP hS hL)
end ZR
