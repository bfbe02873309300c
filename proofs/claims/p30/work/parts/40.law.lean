/-! THE LAW'S WALK, behind both constructors -/
def R_law : String := "StarLessLaw"
def lw_P (b : Addr) (xs : List Int32) (args : Array Value) (s : State) : Prop := args = #[.ref b] ∧ s.IntsAt b xs ∧ xs.length ≤ 448 ∧ (Jvm.Cond.and given_1 narrow_1).before args s = true
def lw_Q (_ : Array Value) (s : State) (o : Outcome) (t : State) : Prop := o = .returned (some (.int 1)) ∧ Framed s o t [] 600000 7302250
def lw_Z (below : List Frame) (a : Array Value) (s : State) : State → Prop := fun t => ∃ o, t.status = .running ∧ Ended t below o ∧ lw_Q a s o t
theorem lw_ret9 {p : Program} {l : Launch} {e : Env} {s : State} {m : MethodId} {args : Array Value} {below : List Frame} {meth : Method} {c : Code} (hx : p.tables.exec = Jvm.exec) (hb : c.code = code) (hr : meth.sig.returnType = ret) (hlocks : meth.locks = false) {pc : Nat} {H : Heap} {ls : Array Slot} (hdg : decode code pc = .ok (.ireturn, 1)) : W p l e room_1 s m args below meth c H [] 600000 7302250 (lw_Z below args s) (F0 m pc ls [.int 1]) := by
  intro T hT X
  obtain ⟨fs, hret, hrun, hended, hW, hframe⟩ := X.leave (v := some (.int 1)) (hlocks := hlocks) (fun h => by rw [hr] at h; cases h)
  have hmeth' : T.vm.method? m = some meth := X.method'
  refine ⟨T.setFrames fs, ?_, .returned (some (.int 1)), hrun, hended, rfl, ⟨_, rfl⟩, hW, hframe⟩
  jvm_step X.here [X.here.top, hx, hb, hdg, hmeth', hr, ret, narrow_b1]
  (try refine ⟨rfl, ?_⟩); (try refine ⟨rfl, ?_⟩)
  first | (intro acts; rw [hret _ acts rfl rfl rfl]) | rw [hret _ _ rfl rfl rfl]
  exact Steps.refl _
def mX_law : zK := (x, code, 4, ret)
/-- the law's own machine: its room, what is made so far, its end; the script at the cell behind the world's -/
def lw_W (L : Nat) (xs : Nat → Int32) : zZ := (room_1, 60, 1000, fun below args s _ _ _ _ => lw_Z below args s, fun s ad A => va_X (ad 52) L xs s s.heap ∧ ad 52 < s.heap.size ∧ A = fun q => s.heap.size ≤ q)
def zsc (xs : Nat → Int32) (j : Int) : Int := (xs j.toNat).toInt
theorem zsc_in (xs : Nat → Int32) (j : Int) : zin (zsc xs j) := ⟨Int32.le_toInt _, Int32.toInt_lt _⟩
theorem r_slen {L : Nat} {xs : Nat → Int32} {pc : Nat} {ls : List (Nat × zV)} {st : List zV} {w : zW} (hd : decode mX_law.2.1 pc = .ok (.arraylength, 1)) (k : zM mX_law (lw_W L xs) (pc + 1) ls (zI (L : Int) :: st) w) : zM mX_law (lw_W L xs) pc ls (zR 52 :: st) w := by
  intro p l e s m args below meth c D ad cy A H locs la E hX hO hP hS hL
  obtain ⟨hX1, hX2, hX3⟩ := id hX
  have hbA : ¬ A (ad 52) := by rw [hX3]; exact Nat.not_le.mpr hX2
  refine va_slen E.1 E.2.1 hX1 hX2 hbA hS hd ?_
  have h := k p l e s m args below meth c D ad cy A H locs la E hX hO hP hS hL
  rw [List.map_cons, show zcv ad (zI (L : Int)) = .int (nI L) from congrArg Value.int (Int32.ofInt_eq_ofNat)] at h
  exact h
theorem r_sld {L : Nat} {xs : Nat → Int32} {pc : Nat} {ls : List (Nat × zV)} {st : List zV} {w : zW} {j : Int} (hd : decode mX_law.2.1 pc = .ok (.iaload, 1)) (h0 : 0 ≤ j) (h1 : j < L) (h2 : L < 2147483648) (k : zM mX_law (lw_W L xs) (pc + 1) ls (zI (zsc xs j) :: st) w) : zM mX_law (lw_W L xs) pc ls (zI j :: zR 52 :: st) w := by
  intro p l e s m args below meth c D ad cy A H locs la E hX hO hP hS hL
  obtain ⟨hX1, hX2, hX3⟩ := id hX
  have hbA : ¬ A (ad 52) := by rw [hX3]; exact Nat.not_le.mpr hX2
  refine va_sld E.1 E.2.1 hX1 hX2 hbA hS (zi_in h0 h1 h2) hd ?_
  have h := k p l e s m args below meth c D ad cy A H locs la E hX hO hP hS hL
  rw [zi_nat h0 (by omega)]
  rw [List.map_cons, show zcv ad (zI (zsc xs j)) = .int (xs j.toNat) from congrArg Value.int (Int32.ofInt_toInt _)] at h
  exact h
theorem r_lawret {L : Nat} {xs : Nat → Int32} {pc : Nat} {ls : List (Nat × zV)} {w : zW} (hd : decode mX_law.2.1 pc = .ok (.ireturn, 1)) : zM mX_law (lw_W L xs) pc ls [zI 1] w := by
  intro p l e s m args below meth c D ad cy A H locs la E hX hO hP hS hL
  obtain ⟨hX1, hX2, hX3⟩ := id hX
  subst hX3
  refine va_forget (fun q hq => hS.2.2 q hq) ?_
  refine W.widen (k := 60) (n := 1000) (Nat.le_refl 60) (Nat.le_refl 1000) ?_
  refine W.widen (k := 600000) (n := 7302250) (Nat.le_of_ble_eq_true rfl) (Nat.le_of_ble_eq_true rfl) ?_
  exact lw_ret9 E.1 E.2.1 E.2.2.2.1 E.2.2.2.2.1 hd
theorem r_eqI {M : zK} {Z : zZ} {pc : Nat} {ls : List (Nat × zV)} {st : List zV} {w : zW} {x y off : Int} (tgt : Nat) (h : x = y) (hd : decode M.2.1 pc = .ok (.if_icmp .eq off, 3)) (ht : (pc : Int) + off = (tgt : Int)) (k : zM M Z tgt ls st w) : zM M Z pc ls (zI y :: zI x :: st) w := by
  subst h
  intro p l e s m args below meth c D ad cy A H locs la E hX hO hP hS hL
  exact lv_icmp_eq (tgt := tgt) E.1 E.2.1 hd ht (fun _ => k p l e s m args below meth c D ad cy A H locs la E hX hO hP hS hL) (fun g => absurd rfl g)
theorem r_eqJ {M : zK} {Z : zZ} {pc : Nat} {ls : List (Nat × zV)} {st : List zV} {w : zW} {x y off : Int} (tgt : Nat) (h : x = y) (hd0 : decode M.2.1 pc = .ok (.lcmp, 1)) (hd : decode M.2.1 (pc + 1) = .ok (.ifCond .eq off, 3)) (ht : ((pc + 1 : Nat) : Int) + off = (tgt : Int)) (k : zM M Z tgt ls st w) : zM M Z pc ls (zJ y :: zJ x :: st) w := by
  subst h
  intro p l e s m args below meth c D ad cy A H locs la E hX hO hP hS hL
  refine W.lcmp E.1 E.2.1 hd0 ?_
  exact lv_if_eq (tgt := tgt) E.1 E.2.1 hd ht (fun _ => k p l e s m args below meth c D ad cy A H locs la E hX hO hP hS hL) (fun g => absurd ((lg_cmp_eq _ _).mpr rfl) g)
theorem r_pop {M : zK} {Z : zZ} {pc : Nat} {ls : List (Nat × zV)} {st : List zV} {w : zW} {x : Int} (hd : decode M.2.1 pc = .ok (.pop, 1)) (k : zM M Z (pc + 1) ls st w) : zM M Z pc ls (zI x :: st) w := by
  intro p l e s m args below meth c D ad cy A H locs la E hX hO hP hS hL
  exact lv_pop E.1 E.2.1 hd rfl (k p l e s m args below meth c D ad cy A H locs la E hX hO hP hS hL)
theorem r_pop2 {M : zK} {Z : zZ} {pc : Nat} {ls : List (Nat × zV)} {st : List zV} {w : zW} {x : Int} (hd : decode M.2.1 pc = .ok (.pop2, 1)) (k : zM M Z (pc + 1) ls st w) : zM M Z pc ls (zJ x :: st) w := by
  intro p l e s m args below meth c D ad cy A H locs la E hX hO hP hS hL
  exact lv_pop2_2 E.1 E.2.1 hd rfl (k p l e s m args below meth c D ad cy A H locs la E hX hO hP hS hL)

theorem dX_law_0 : decode mX_law.2.1 0 = .ok (.new 7, 3) := by decide +kernel
theorem dX_law_3 : decode mX_law.2.1 3 = .ok (.dup, 1) := by decide +kernel
theorem dX_law_4 : decode mX_law.2.1 4 = .ok (.invokespecial 9, 3) := by decide +kernel
theorem dX_law_7 : decode mX_law.2.1 7 = .ok (.astore_n 1, 1) := by decide +kernel
theorem dX_law_8 : decode mX_law.2.1 8 = .ok (.new 10, 3) := by decide +kernel
theorem dX_law_11 : decode mX_law.2.1 11 = .ok (.dup, 1) := by decide +kernel
theorem dX_law_12 : decode mX_law.2.1 12 = .ok (.invokespecial 12, 3) := by decide +kernel
theorem dX_law_15 : decode mX_law.2.1 15 = .ok (.astore_n 2, 1) := by decide +kernel
theorem dX_law_16 : decode mX_law.2.1 16 = .ok (.iconst 0, 1) := by decide +kernel
theorem dX_law_17 : decode mX_law.2.1 17 = .ok (.istore_n 3, 1) := by decide +kernel
theorem dX_law_18 : decode mX_law.2.1 18 = .ok (.iload_n 3, 1) := by decide +kernel
theorem dX_law_19 : decode mX_law.2.1 19 = .ok (.aload_n 0, 1) := by decide +kernel
theorem dX_law_20 : decode mX_law.2.1 20 = .ok (.arraylength, 1) := by decide +kernel
theorem dX_law_21 : decode mX_law.2.1 21 = .ok (.bipush 7, 2) := by decide +kernel
theorem dX_law_23 : decode mX_law.2.1 23 = .ok (.isub, 1) := by decide +kernel
theorem dX_law_24 : decode mX_law.2.1 24 = .ok (.if_icmp .gt 1133, 3) := by decide +kernel
theorem dX_law_27 : decode mX_law.2.1 27 = .ok (.aload_n 0, 1) := by decide +kernel
theorem dX_law_28 : decode mX_law.2.1 28 = .ok (.iload_n 3, 1) := by decide +kernel
theorem dX_law_29 : decode mX_law.2.1 29 = .ok (.iaload, 1) := by decide +kernel
theorem dX_law_30 : decode mX_law.2.1 30 = .ok (.bipush 31, 2) := by decide +kernel
theorem dX_law_32 : decode mX_law.2.1 32 = .ok (.iand, 1) := by decide +kernel
theorem dX_law_33 : decode mX_law.2.1 33 = .ok (.tableswitch 1118 0 28 #[131, 184, 217, 250, 273, 296, 329, 404, 467, 490, 513, 536, 595, 618, 631, 654, 677, 700, 775, 818, 841, 884, 927, 990, 1013, 1036, 1069, 1082, 1095], 131) := by decide +kernel
theorem dX_law_164 : decode mX_law.2.1 164 = .ok (.aload_n 1, 1) := by decide +kernel
theorem dX_law_165 : decode mX_law.2.1 165 = .ok (.aload_n 0, 1) := by decide +kernel
theorem dX_law_166 : decode mX_law.2.1 166 = .ok (.iload_n 3, 1) := by decide +kernel
theorem dX_law_167 : decode mX_law.2.1 167 = .ok (.iconst 1, 1) := by decide +kernel
theorem dX_law_168 : decode mX_law.2.1 168 = .ok (.iadd, 1) := by decide +kernel
theorem dX_law_169 : decode mX_law.2.1 169 = .ok (.iaload, 1) := by decide +kernel
theorem dX_law_170 : decode mX_law.2.1 170 = .ok (.aload_n 0, 1) := by decide +kernel
theorem dX_law_171 : decode mX_law.2.1 171 = .ok (.iload_n 3, 1) := by decide +kernel
theorem dX_law_172 : decode mX_law.2.1 172 = .ok (.iconst 2, 1) := by decide +kernel
theorem dX_law_173 : decode mX_law.2.1 173 = .ok (.iadd, 1) := by decide +kernel
theorem dX_law_174 : decode mX_law.2.1 174 = .ok (.iaload, 1) := by decide +kernel
theorem dX_law_175 : decode mX_law.2.1 175 = .ok (.aload_n 0, 1) := by decide +kernel
theorem dX_law_176 : decode mX_law.2.1 176 = .ok (.iload_n 3, 1) := by decide +kernel
theorem dX_law_177 : decode mX_law.2.1 177 = .ok (.iconst 3, 1) := by decide +kernel
theorem dX_law_178 : decode mX_law.2.1 178 = .ok (.iadd, 1) := by decide +kernel
theorem dX_law_179 : decode mX_law.2.1 179 = .ok (.iaload, 1) := by decide +kernel
theorem dX_law_180 : decode mX_law.2.1 180 = .ok (.aload_n 0, 1) := by decide +kernel
theorem dX_law_181 : decode mX_law.2.1 181 = .ok (.iload_n 3, 1) := by decide +kernel
theorem dX_law_182 : decode mX_law.2.1 182 = .ok (.iconst 4, 1) := by decide +kernel
theorem dX_law_183 : decode mX_law.2.1 183 = .ok (.iadd, 1) := by decide +kernel
theorem dX_law_184 : decode mX_law.2.1 184 = .ok (.iaload, 1) := by decide +kernel
theorem dX_law_185 : decode mX_law.2.1 185 = .ok (.invokevirtual 13, 3) := by decide +kernel
theorem dX_law_188 : decode mX_law.2.1 188 = .ok (.pop, 1) := by decide +kernel
theorem dX_law_189 : decode mX_law.2.1 189 = .ok (.aload_n 2, 1) := by decide +kernel
theorem dX_law_190 : decode mX_law.2.1 190 = .ok (.aload_n 0, 1) := by decide +kernel
theorem dX_law_191 : decode mX_law.2.1 191 = .ok (.iload_n 3, 1) := by decide +kernel
theorem dX_law_192 : decode mX_law.2.1 192 = .ok (.iconst 1, 1) := by decide +kernel
theorem dX_law_193 : decode mX_law.2.1 193 = .ok (.iadd, 1) := by decide +kernel
theorem dX_law_194 : decode mX_law.2.1 194 = .ok (.iaload, 1) := by decide +kernel
theorem dX_law_195 : decode mX_law.2.1 195 = .ok (.aload_n 0, 1) := by decide +kernel
theorem dX_law_196 : decode mX_law.2.1 196 = .ok (.iload_n 3, 1) := by decide +kernel
theorem dX_law_197 : decode mX_law.2.1 197 = .ok (.iconst 2, 1) := by decide +kernel
theorem dX_law_198 : decode mX_law.2.1 198 = .ok (.iadd, 1) := by decide +kernel
theorem dX_law_199 : decode mX_law.2.1 199 = .ok (.iaload, 1) := by decide +kernel
theorem dX_law_200 : decode mX_law.2.1 200 = .ok (.aload_n 0, 1) := by decide +kernel
theorem dX_law_201 : decode mX_law.2.1 201 = .ok (.iload_n 3, 1) := by decide +kernel
theorem dX_law_202 : decode mX_law.2.1 202 = .ok (.iconst 3, 1) := by decide +kernel
theorem dX_law_203 : decode mX_law.2.1 203 = .ok (.iadd, 1) := by decide +kernel
theorem dX_law_204 : decode mX_law.2.1 204 = .ok (.iaload, 1) := by decide +kernel
theorem dX_law_205 : decode mX_law.2.1 205 = .ok (.aload_n 0, 1) := by decide +kernel
theorem dX_law_206 : decode mX_law.2.1 206 = .ok (.iload_n 3, 1) := by decide +kernel
theorem dX_law_207 : decode mX_law.2.1 207 = .ok (.iconst 4, 1) := by decide +kernel
theorem dX_law_208 : decode mX_law.2.1 208 = .ok (.iadd, 1) := by decide +kernel
theorem dX_law_209 : decode mX_law.2.1 209 = .ok (.iaload, 1) := by decide +kernel
theorem dX_law_210 : decode mX_law.2.1 210 = .ok (.invokevirtual 17, 3) := by decide +kernel
theorem dX_law_213 : decode mX_law.2.1 213 = .ok (.pop, 1) := by decide +kernel
theorem dX_law_214 : decode mX_law.2.1 214 = .ok (.goto 937, 3) := by decide +kernel
theorem dX_law_217 : decode mX_law.2.1 217 = .ok (.aload_n 1, 1) := by decide +kernel
theorem dX_law_218 : decode mX_law.2.1 218 = .ok (.aload_n 0, 1) := by decide +kernel
theorem dX_law_219 : decode mX_law.2.1 219 = .ok (.iload_n 3, 1) := by decide +kernel
theorem dX_law_220 : decode mX_law.2.1 220 = .ok (.iconst 1, 1) := by decide +kernel
theorem dX_law_221 : decode mX_law.2.1 221 = .ok (.iadd, 1) := by decide +kernel
theorem dX_law_222 : decode mX_law.2.1 222 = .ok (.iaload, 1) := by decide +kernel
theorem dX_law_223 : decode mX_law.2.1 223 = .ok (.aload_n 0, 1) := by decide +kernel
theorem dX_law_224 : decode mX_law.2.1 224 = .ok (.iload_n 3, 1) := by decide +kernel
theorem dX_law_225 : decode mX_law.2.1 225 = .ok (.iconst 2, 1) := by decide +kernel
theorem dX_law_226 : decode mX_law.2.1 226 = .ok (.iadd, 1) := by decide +kernel
theorem dX_law_227 : decode mX_law.2.1 227 = .ok (.iaload, 1) := by decide +kernel
theorem dX_law_228 : decode mX_law.2.1 228 = .ok (.invokevirtual 18, 3) := by decide +kernel
theorem dX_law_231 : decode mX_law.2.1 231 = .ok (.pop, 1) := by decide +kernel
theorem dX_law_232 : decode mX_law.2.1 232 = .ok (.aload_n 2, 1) := by decide +kernel
theorem dX_law_233 : decode mX_law.2.1 233 = .ok (.aload_n 0, 1) := by decide +kernel
theorem dX_law_234 : decode mX_law.2.1 234 = .ok (.iload_n 3, 1) := by decide +kernel
theorem dX_law_235 : decode mX_law.2.1 235 = .ok (.iconst 1, 1) := by decide +kernel
theorem dX_law_236 : decode mX_law.2.1 236 = .ok (.iadd, 1) := by decide +kernel
theorem dX_law_237 : decode mX_law.2.1 237 = .ok (.iaload, 1) := by decide +kernel
theorem dX_law_238 : decode mX_law.2.1 238 = .ok (.aload_n 0, 1) := by decide +kernel
theorem dX_law_239 : decode mX_law.2.1 239 = .ok (.iload_n 3, 1) := by decide +kernel
theorem dX_law_240 : decode mX_law.2.1 240 = .ok (.iconst 2, 1) := by decide +kernel
theorem dX_law_241 : decode mX_law.2.1 241 = .ok (.iadd, 1) := by decide +kernel
theorem dX_law_242 : decode mX_law.2.1 242 = .ok (.iaload, 1) := by decide +kernel
theorem dX_law_243 : decode mX_law.2.1 243 = .ok (.invokevirtual 22, 3) := by decide +kernel
theorem dX_law_246 : decode mX_law.2.1 246 = .ok (.pop, 1) := by decide +kernel
theorem dX_law_247 : decode mX_law.2.1 247 = .ok (.goto 904, 3) := by decide +kernel
theorem dX_law_250 : decode mX_law.2.1 250 = .ok (.aload_n 1, 1) := by decide +kernel
theorem dX_law_251 : decode mX_law.2.1 251 = .ok (.aload_n 0, 1) := by decide +kernel
theorem dX_law_252 : decode mX_law.2.1 252 = .ok (.iload_n 3, 1) := by decide +kernel
theorem dX_law_253 : decode mX_law.2.1 253 = .ok (.iconst 1, 1) := by decide +kernel
theorem dX_law_254 : decode mX_law.2.1 254 = .ok (.iadd, 1) := by decide +kernel
theorem dX_law_255 : decode mX_law.2.1 255 = .ok (.iaload, 1) := by decide +kernel
theorem dX_law_256 : decode mX_law.2.1 256 = .ok (.aload_n 0, 1) := by decide +kernel
theorem dX_law_257 : decode mX_law.2.1 257 = .ok (.iload_n 3, 1) := by decide +kernel
theorem dX_law_258 : decode mX_law.2.1 258 = .ok (.iconst 2, 1) := by decide +kernel
theorem dX_law_259 : decode mX_law.2.1 259 = .ok (.iadd, 1) := by decide +kernel
theorem dX_law_260 : decode mX_law.2.1 260 = .ok (.iaload, 1) := by decide +kernel
theorem dX_law_261 : decode mX_law.2.1 261 = .ok (.invokevirtual 23, 3) := by decide +kernel
theorem dX_law_264 : decode mX_law.2.1 264 = .ok (.pop, 1) := by decide +kernel
theorem dX_law_265 : decode mX_law.2.1 265 = .ok (.aload_n 2, 1) := by decide +kernel
theorem dX_law_266 : decode mX_law.2.1 266 = .ok (.aload_n 0, 1) := by decide +kernel
theorem dX_law_267 : decode mX_law.2.1 267 = .ok (.iload_n 3, 1) := by decide +kernel
theorem dX_law_268 : decode mX_law.2.1 268 = .ok (.iconst 1, 1) := by decide +kernel
theorem dX_law_269 : decode mX_law.2.1 269 = .ok (.iadd, 1) := by decide +kernel
theorem dX_law_270 : decode mX_law.2.1 270 = .ok (.iaload, 1) := by decide +kernel
theorem dX_law_271 : decode mX_law.2.1 271 = .ok (.aload_n 0, 1) := by decide +kernel
theorem dX_law_272 : decode mX_law.2.1 272 = .ok (.iload_n 3, 1) := by decide +kernel
theorem dX_law_273 : decode mX_law.2.1 273 = .ok (.iconst 2, 1) := by decide +kernel
theorem dX_law_274 : decode mX_law.2.1 274 = .ok (.iadd, 1) := by decide +kernel
theorem dX_law_275 : decode mX_law.2.1 275 = .ok (.iaload, 1) := by decide +kernel
theorem dX_law_276 : decode mX_law.2.1 276 = .ok (.invokevirtual 26, 3) := by decide +kernel
theorem dX_law_279 : decode mX_law.2.1 279 = .ok (.pop, 1) := by decide +kernel
theorem dX_law_280 : decode mX_law.2.1 280 = .ok (.goto 871, 3) := by decide +kernel
theorem dX_law_283 : decode mX_law.2.1 283 = .ok (.aload_n 1, 1) := by decide +kernel
theorem dX_law_284 : decode mX_law.2.1 284 = .ok (.aload_n 0, 1) := by decide +kernel
theorem dX_law_285 : decode mX_law.2.1 285 = .ok (.iload_n 3, 1) := by decide +kernel
theorem dX_law_286 : decode mX_law.2.1 286 = .ok (.iconst 1, 1) := by decide +kernel
theorem dX_law_287 : decode mX_law.2.1 287 = .ok (.iadd, 1) := by decide +kernel
theorem dX_law_288 : decode mX_law.2.1 288 = .ok (.iaload, 1) := by decide +kernel
theorem dX_law_289 : decode mX_law.2.1 289 = .ok (.invokevirtual 27, 3) := by decide +kernel
theorem dX_law_292 : decode mX_law.2.1 292 = .ok (.pop, 1) := by decide +kernel
theorem dX_law_293 : decode mX_law.2.1 293 = .ok (.aload_n 2, 1) := by decide +kernel
theorem dX_law_294 : decode mX_law.2.1 294 = .ok (.aload_n 0, 1) := by decide +kernel
theorem dX_law_295 : decode mX_law.2.1 295 = .ok (.iload_n 3, 1) := by decide +kernel
theorem dX_law_296 : decode mX_law.2.1 296 = .ok (.iconst 1, 1) := by decide +kernel
theorem dX_law_297 : decode mX_law.2.1 297 = .ok (.iadd, 1) := by decide +kernel
theorem dX_law_298 : decode mX_law.2.1 298 = .ok (.iaload, 1) := by decide +kernel
theorem dX_law_299 : decode mX_law.2.1 299 = .ok (.invokevirtual 31, 3) := by decide +kernel
theorem dX_law_302 : decode mX_law.2.1 302 = .ok (.pop, 1) := by decide +kernel
theorem dX_law_303 : decode mX_law.2.1 303 = .ok (.goto 848, 3) := by decide +kernel
theorem dX_law_306 : decode mX_law.2.1 306 = .ok (.aload_n 1, 1) := by decide +kernel
theorem dX_law_307 : decode mX_law.2.1 307 = .ok (.aload_n 0, 1) := by decide +kernel
theorem dX_law_308 : decode mX_law.2.1 308 = .ok (.iload_n 3, 1) := by decide +kernel
theorem dX_law_309 : decode mX_law.2.1 309 = .ok (.iconst 1, 1) := by decide +kernel
theorem dX_law_310 : decode mX_law.2.1 310 = .ok (.iadd, 1) := by decide +kernel
theorem dX_law_311 : decode mX_law.2.1 311 = .ok (.iaload, 1) := by decide +kernel
theorem dX_law_312 : decode mX_law.2.1 312 = .ok (.invokevirtual 32, 3) := by decide +kernel
theorem dX_law_315 : decode mX_law.2.1 315 = .ok (.pop, 1) := by decide +kernel
theorem dX_law_316 : decode mX_law.2.1 316 = .ok (.aload_n 2, 1) := by decide +kernel
theorem dX_law_317 : decode mX_law.2.1 317 = .ok (.aload_n 0, 1) := by decide +kernel
theorem dX_law_318 : decode mX_law.2.1 318 = .ok (.iload_n 3, 1) := by decide +kernel
theorem dX_law_319 : decode mX_law.2.1 319 = .ok (.iconst 1, 1) := by decide +kernel
theorem dX_law_320 : decode mX_law.2.1 320 = .ok (.iadd, 1) := by decide +kernel
theorem dX_law_321 : decode mX_law.2.1 321 = .ok (.iaload, 1) := by decide +kernel
theorem dX_law_322 : decode mX_law.2.1 322 = .ok (.invokevirtual 35, 3) := by decide +kernel
theorem dX_law_325 : decode mX_law.2.1 325 = .ok (.pop, 1) := by decide +kernel
theorem dX_law_326 : decode mX_law.2.1 326 = .ok (.goto 825, 3) := by decide +kernel
theorem dX_law_329 : decode mX_law.2.1 329 = .ok (.aload_n 1, 1) := by decide +kernel
theorem dX_law_330 : decode mX_law.2.1 330 = .ok (.aload_n 0, 1) := by decide +kernel
theorem dX_law_331 : decode mX_law.2.1 331 = .ok (.iload_n 3, 1) := by decide +kernel
theorem dX_law_332 : decode mX_law.2.1 332 = .ok (.iconst 1, 1) := by decide +kernel
theorem dX_law_333 : decode mX_law.2.1 333 = .ok (.iadd, 1) := by decide +kernel
theorem dX_law_334 : decode mX_law.2.1 334 = .ok (.iaload, 1) := by decide +kernel
theorem dX_law_335 : decode mX_law.2.1 335 = .ok (.aload_n 0, 1) := by decide +kernel
theorem dX_law_336 : decode mX_law.2.1 336 = .ok (.iload_n 3, 1) := by decide +kernel
theorem dX_law_337 : decode mX_law.2.1 337 = .ok (.iconst 2, 1) := by decide +kernel
theorem dX_law_338 : decode mX_law.2.1 338 = .ok (.iadd, 1) := by decide +kernel
theorem dX_law_339 : decode mX_law.2.1 339 = .ok (.iaload, 1) := by decide +kernel
theorem dX_law_340 : decode mX_law.2.1 340 = .ok (.invokevirtual 36, 3) := by decide +kernel
theorem dX_law_343 : decode mX_law.2.1 343 = .ok (.pop, 1) := by decide +kernel
theorem dX_law_344 : decode mX_law.2.1 344 = .ok (.aload_n 2, 1) := by decide +kernel
theorem dX_law_345 : decode mX_law.2.1 345 = .ok (.aload_n 0, 1) := by decide +kernel
theorem dX_law_346 : decode mX_law.2.1 346 = .ok (.iload_n 3, 1) := by decide +kernel
theorem dX_law_347 : decode mX_law.2.1 347 = .ok (.iconst 1, 1) := by decide +kernel
theorem dX_law_348 : decode mX_law.2.1 348 = .ok (.iadd, 1) := by decide +kernel
theorem dX_law_349 : decode mX_law.2.1 349 = .ok (.iaload, 1) := by decide +kernel
theorem dX_law_350 : decode mX_law.2.1 350 = .ok (.aload_n 0, 1) := by decide +kernel
theorem dX_law_351 : decode mX_law.2.1 351 = .ok (.iload_n 3, 1) := by decide +kernel
theorem dX_law_352 : decode mX_law.2.1 352 = .ok (.iconst 2, 1) := by decide +kernel
theorem dX_law_353 : decode mX_law.2.1 353 = .ok (.iadd, 1) := by decide +kernel
theorem dX_law_354 : decode mX_law.2.1 354 = .ok (.iaload, 1) := by decide +kernel
theorem dX_law_355 : decode mX_law.2.1 355 = .ok (.invokevirtual 39, 3) := by decide +kernel
theorem dX_law_358 : decode mX_law.2.1 358 = .ok (.pop, 1) := by decide +kernel
theorem dX_law_359 : decode mX_law.2.1 359 = .ok (.goto 792, 3) := by decide +kernel
theorem dX_law_362 : decode mX_law.2.1 362 = .ok (.aload_n 1, 1) := by decide +kernel
theorem dX_law_363 : decode mX_law.2.1 363 = .ok (.aload_n 0, 1) := by decide +kernel
theorem dX_law_364 : decode mX_law.2.1 364 = .ok (.iload_n 3, 1) := by decide +kernel
theorem dX_law_365 : decode mX_law.2.1 365 = .ok (.iconst 1, 1) := by decide +kernel
theorem dX_law_366 : decode mX_law.2.1 366 = .ok (.iadd, 1) := by decide +kernel
theorem dX_law_367 : decode mX_law.2.1 367 = .ok (.iaload, 1) := by decide +kernel
theorem dX_law_368 : decode mX_law.2.1 368 = .ok (.aload_n 0, 1) := by decide +kernel
theorem dX_law_369 : decode mX_law.2.1 369 = .ok (.iload_n 3, 1) := by decide +kernel
theorem dX_law_370 : decode mX_law.2.1 370 = .ok (.iconst 2, 1) := by decide +kernel
theorem dX_law_371 : decode mX_law.2.1 371 = .ok (.iadd, 1) := by decide +kernel
theorem dX_law_372 : decode mX_law.2.1 372 = .ok (.iaload, 1) := by decide +kernel
theorem dX_law_373 : decode mX_law.2.1 373 = .ok (.aload_n 0, 1) := by decide +kernel
theorem dX_law_374 : decode mX_law.2.1 374 = .ok (.iload_n 3, 1) := by decide +kernel
theorem dX_law_375 : decode mX_law.2.1 375 = .ok (.iconst 3, 1) := by decide +kernel
theorem dX_law_376 : decode mX_law.2.1 376 = .ok (.iadd, 1) := by decide +kernel
theorem dX_law_377 : decode mX_law.2.1 377 = .ok (.iaload, 1) := by decide +kernel
theorem dX_law_378 : decode mX_law.2.1 378 = .ok (.aload_n 0, 1) := by decide +kernel
theorem dX_law_379 : decode mX_law.2.1 379 = .ok (.iload_n 3, 1) := by decide +kernel
theorem dX_law_380 : decode mX_law.2.1 380 = .ok (.iconst 4, 1) := by decide +kernel
theorem dX_law_381 : decode mX_law.2.1 381 = .ok (.iadd, 1) := by decide +kernel
theorem dX_law_382 : decode mX_law.2.1 382 = .ok (.iaload, 1) := by decide +kernel
theorem dX_law_383 : decode mX_law.2.1 383 = .ok (.aload_n 0, 1) := by decide +kernel
theorem dX_law_384 : decode mX_law.2.1 384 = .ok (.iload_n 3, 1) := by decide +kernel
theorem dX_law_385 : decode mX_law.2.1 385 = .ok (.iconst 5, 1) := by decide +kernel
theorem dX_law_386 : decode mX_law.2.1 386 = .ok (.iadd, 1) := by decide +kernel
theorem dX_law_387 : decode mX_law.2.1 387 = .ok (.iaload, 1) := by decide +kernel
theorem dX_law_388 : decode mX_law.2.1 388 = .ok (.aload_n 0, 1) := by decide +kernel
theorem dX_law_389 : decode mX_law.2.1 389 = .ok (.iload_n 3, 1) := by decide +kernel
theorem dX_law_390 : decode mX_law.2.1 390 = .ok (.bipush 6, 2) := by decide +kernel
theorem dX_law_392 : decode mX_law.2.1 392 = .ok (.iadd, 1) := by decide +kernel
theorem dX_law_393 : decode mX_law.2.1 393 = .ok (.iaload, 1) := by decide +kernel
theorem dX_law_394 : decode mX_law.2.1 394 = .ok (.invokevirtual 40, 3) := by decide +kernel
theorem dX_law_397 : decode mX_law.2.1 397 = .ok (.pop, 1) := by decide +kernel
theorem dX_law_398 : decode mX_law.2.1 398 = .ok (.aload_n 2, 1) := by decide +kernel
theorem dX_law_399 : decode mX_law.2.1 399 = .ok (.aload_n 0, 1) := by decide +kernel
theorem dX_law_400 : decode mX_law.2.1 400 = .ok (.iload_n 3, 1) := by decide +kernel
theorem dX_law_401 : decode mX_law.2.1 401 = .ok (.iconst 1, 1) := by decide +kernel
theorem dX_law_402 : decode mX_law.2.1 402 = .ok (.iadd, 1) := by decide +kernel
theorem dX_law_403 : decode mX_law.2.1 403 = .ok (.iaload, 1) := by decide +kernel
theorem dX_law_404 : decode mX_law.2.1 404 = .ok (.aload_n 0, 1) := by decide +kernel
theorem dX_law_405 : decode mX_law.2.1 405 = .ok (.iload_n 3, 1) := by decide +kernel
theorem dX_law_406 : decode mX_law.2.1 406 = .ok (.iconst 2, 1) := by decide +kernel
theorem dX_law_407 : decode mX_law.2.1 407 = .ok (.iadd, 1) := by decide +kernel
theorem dX_law_408 : decode mX_law.2.1 408 = .ok (.iaload, 1) := by decide +kernel
theorem dX_law_409 : decode mX_law.2.1 409 = .ok (.aload_n 0, 1) := by decide +kernel
theorem dX_law_410 : decode mX_law.2.1 410 = .ok (.iload_n 3, 1) := by decide +kernel
theorem dX_law_411 : decode mX_law.2.1 411 = .ok (.iconst 3, 1) := by decide +kernel
theorem dX_law_412 : decode mX_law.2.1 412 = .ok (.iadd, 1) := by decide +kernel
theorem dX_law_413 : decode mX_law.2.1 413 = .ok (.iaload, 1) := by decide +kernel
theorem dX_law_414 : decode mX_law.2.1 414 = .ok (.aload_n 0, 1) := by decide +kernel
theorem dX_law_415 : decode mX_law.2.1 415 = .ok (.iload_n 3, 1) := by decide +kernel
theorem dX_law_416 : decode mX_law.2.1 416 = .ok (.iconst 4, 1) := by decide +kernel
theorem dX_law_417 : decode mX_law.2.1 417 = .ok (.iadd, 1) := by decide +kernel
theorem dX_law_418 : decode mX_law.2.1 418 = .ok (.iaload, 1) := by decide +kernel
theorem dX_law_419 : decode mX_law.2.1 419 = .ok (.aload_n 0, 1) := by decide +kernel
theorem dX_law_420 : decode mX_law.2.1 420 = .ok (.iload_n 3, 1) := by decide +kernel
theorem dX_law_421 : decode mX_law.2.1 421 = .ok (.iconst 5, 1) := by decide +kernel
theorem dX_law_422 : decode mX_law.2.1 422 = .ok (.iadd, 1) := by decide +kernel
theorem dX_law_423 : decode mX_law.2.1 423 = .ok (.iaload, 1) := by decide +kernel
theorem dX_law_424 : decode mX_law.2.1 424 = .ok (.aload_n 0, 1) := by decide +kernel
theorem dX_law_425 : decode mX_law.2.1 425 = .ok (.iload_n 3, 1) := by decide +kernel
theorem dX_law_426 : decode mX_law.2.1 426 = .ok (.bipush 6, 2) := by decide +kernel
theorem dX_law_428 : decode mX_law.2.1 428 = .ok (.iadd, 1) := by decide +kernel
theorem dX_law_429 : decode mX_law.2.1 429 = .ok (.iaload, 1) := by decide +kernel
theorem dX_law_430 : decode mX_law.2.1 430 = .ok (.invokevirtual 44, 3) := by decide +kernel
theorem dX_law_433 : decode mX_law.2.1 433 = .ok (.pop, 1) := by decide +kernel
theorem dX_law_434 : decode mX_law.2.1 434 = .ok (.goto 717, 3) := by decide +kernel
theorem dX_law_437 : decode mX_law.2.1 437 = .ok (.aload_n 1, 1) := by decide +kernel
theorem dX_law_438 : decode mX_law.2.1 438 = .ok (.aload_n 0, 1) := by decide +kernel
theorem dX_law_439 : decode mX_law.2.1 439 = .ok (.iload_n 3, 1) := by decide +kernel
theorem dX_law_440 : decode mX_law.2.1 440 = .ok (.iconst 1, 1) := by decide +kernel
theorem dX_law_441 : decode mX_law.2.1 441 = .ok (.iadd, 1) := by decide +kernel
theorem dX_law_442 : decode mX_law.2.1 442 = .ok (.iaload, 1) := by decide +kernel
theorem dX_law_443 : decode mX_law.2.1 443 = .ok (.aload_n 0, 1) := by decide +kernel
theorem dX_law_444 : decode mX_law.2.1 444 = .ok (.iload_n 3, 1) := by decide +kernel
theorem dX_law_445 : decode mX_law.2.1 445 = .ok (.iconst 2, 1) := by decide +kernel
theorem dX_law_446 : decode mX_law.2.1 446 = .ok (.iadd, 1) := by decide +kernel
theorem dX_law_447 : decode mX_law.2.1 447 = .ok (.iaload, 1) := by decide +kernel
theorem dX_law_448 : decode mX_law.2.1 448 = .ok (.aload_n 0, 1) := by decide +kernel
theorem dX_law_449 : decode mX_law.2.1 449 = .ok (.iload_n 3, 1) := by decide +kernel
theorem dX_law_450 : decode mX_law.2.1 450 = .ok (.iconst 3, 1) := by decide +kernel
theorem dX_law_451 : decode mX_law.2.1 451 = .ok (.iadd, 1) := by decide +kernel
theorem dX_law_452 : decode mX_law.2.1 452 = .ok (.iaload, 1) := by decide +kernel
theorem dX_law_453 : decode mX_law.2.1 453 = .ok (.aload_n 0, 1) := by decide +kernel
theorem dX_law_454 : decode mX_law.2.1 454 = .ok (.iload_n 3, 1) := by decide +kernel
theorem dX_law_455 : decode mX_law.2.1 455 = .ok (.iconst 4, 1) := by decide +kernel
theorem dX_law_456 : decode mX_law.2.1 456 = .ok (.iadd, 1) := by decide +kernel
theorem dX_law_457 : decode mX_law.2.1 457 = .ok (.iaload, 1) := by decide +kernel
theorem dX_law_458 : decode mX_law.2.1 458 = .ok (.aload_n 0, 1) := by decide +kernel
theorem dX_law_459 : decode mX_law.2.1 459 = .ok (.iload_n 3, 1) := by decide +kernel
theorem dX_law_460 : decode mX_law.2.1 460 = .ok (.iconst 5, 1) := by decide +kernel
theorem dX_law_461 : decode mX_law.2.1 461 = .ok (.iadd, 1) := by decide +kernel
theorem dX_law_462 : decode mX_law.2.1 462 = .ok (.iaload, 1) := by decide +kernel
theorem dX_law_463 : decode mX_law.2.1 463 = .ok (.invokevirtual 45, 3) := by decide +kernel
theorem dX_law_466 : decode mX_law.2.1 466 = .ok (.pop, 1) := by decide +kernel
theorem dX_law_467 : decode mX_law.2.1 467 = .ok (.aload_n 2, 1) := by decide +kernel
theorem dX_law_468 : decode mX_law.2.1 468 = .ok (.aload_n 0, 1) := by decide +kernel
theorem dX_law_469 : decode mX_law.2.1 469 = .ok (.iload_n 3, 1) := by decide +kernel
theorem dX_law_470 : decode mX_law.2.1 470 = .ok (.iconst 1, 1) := by decide +kernel
theorem dX_law_471 : decode mX_law.2.1 471 = .ok (.iadd, 1) := by decide +kernel
theorem dX_law_472 : decode mX_law.2.1 472 = .ok (.iaload, 1) := by decide +kernel
theorem dX_law_473 : decode mX_law.2.1 473 = .ok (.aload_n 0, 1) := by decide +kernel
theorem dX_law_474 : decode mX_law.2.1 474 = .ok (.iload_n 3, 1) := by decide +kernel
theorem dX_law_475 : decode mX_law.2.1 475 = .ok (.iconst 2, 1) := by decide +kernel
theorem dX_law_476 : decode mX_law.2.1 476 = .ok (.iadd, 1) := by decide +kernel
theorem dX_law_477 : decode mX_law.2.1 477 = .ok (.iaload, 1) := by decide +kernel
theorem dX_law_478 : decode mX_law.2.1 478 = .ok (.aload_n 0, 1) := by decide +kernel
theorem dX_law_479 : decode mX_law.2.1 479 = .ok (.iload_n 3, 1) := by decide +kernel
theorem dX_law_480 : decode mX_law.2.1 480 = .ok (.iconst 3, 1) := by decide +kernel
theorem dX_law_481 : decode mX_law.2.1 481 = .ok (.iadd, 1) := by decide +kernel
theorem dX_law_482 : decode mX_law.2.1 482 = .ok (.iaload, 1) := by decide +kernel
theorem dX_law_483 : decode mX_law.2.1 483 = .ok (.aload_n 0, 1) := by decide +kernel
theorem dX_law_484 : decode mX_law.2.1 484 = .ok (.iload_n 3, 1) := by decide +kernel
theorem dX_law_485 : decode mX_law.2.1 485 = .ok (.iconst 4, 1) := by decide +kernel
theorem dX_law_486 : decode mX_law.2.1 486 = .ok (.iadd, 1) := by decide +kernel
theorem dX_law_487 : decode mX_law.2.1 487 = .ok (.iaload, 1) := by decide +kernel
theorem dX_law_488 : decode mX_law.2.1 488 = .ok (.aload_n 0, 1) := by decide +kernel
theorem dX_law_489 : decode mX_law.2.1 489 = .ok (.iload_n 3, 1) := by decide +kernel
theorem dX_law_490 : decode mX_law.2.1 490 = .ok (.iconst 5, 1) := by decide +kernel
theorem dX_law_491 : decode mX_law.2.1 491 = .ok (.iadd, 1) := by decide +kernel
theorem dX_law_492 : decode mX_law.2.1 492 = .ok (.iaload, 1) := by decide +kernel
theorem dX_law_493 : decode mX_law.2.1 493 = .ok (.invokevirtual 49, 3) := by decide +kernel
theorem dX_law_496 : decode mX_law.2.1 496 = .ok (.pop, 1) := by decide +kernel
theorem dX_law_497 : decode mX_law.2.1 497 = .ok (.goto 654, 3) := by decide +kernel
theorem dX_law_500 : decode mX_law.2.1 500 = .ok (.aload_n 1, 1) := by decide +kernel
theorem dX_law_501 : decode mX_law.2.1 501 = .ok (.aload_n 0, 1) := by decide +kernel
theorem dX_law_502 : decode mX_law.2.1 502 = .ok (.iload_n 3, 1) := by decide +kernel
theorem dX_law_503 : decode mX_law.2.1 503 = .ok (.iconst 1, 1) := by decide +kernel
theorem dX_law_504 : decode mX_law.2.1 504 = .ok (.iadd, 1) := by decide +kernel
theorem dX_law_505 : decode mX_law.2.1 505 = .ok (.iaload, 1) := by decide +kernel
theorem dX_law_506 : decode mX_law.2.1 506 = .ok (.invokevirtual 50, 3) := by decide +kernel
theorem dX_law_509 : decode mX_law.2.1 509 = .ok (.pop, 1) := by decide +kernel
theorem dX_law_510 : decode mX_law.2.1 510 = .ok (.aload_n 2, 1) := by decide +kernel
theorem dX_law_511 : decode mX_law.2.1 511 = .ok (.aload_n 0, 1) := by decide +kernel
theorem dX_law_512 : decode mX_law.2.1 512 = .ok (.iload_n 3, 1) := by decide +kernel
theorem dX_law_513 : decode mX_law.2.1 513 = .ok (.iconst 1, 1) := by decide +kernel
theorem dX_law_514 : decode mX_law.2.1 514 = .ok (.iadd, 1) := by decide +kernel
theorem dX_law_515 : decode mX_law.2.1 515 = .ok (.iaload, 1) := by decide +kernel
theorem dX_law_516 : decode mX_law.2.1 516 = .ok (.invokevirtual 53, 3) := by decide +kernel
theorem dX_law_519 : decode mX_law.2.1 519 = .ok (.pop, 1) := by decide +kernel
theorem dX_law_520 : decode mX_law.2.1 520 = .ok (.goto 631, 3) := by decide +kernel
theorem dX_law_523 : decode mX_law.2.1 523 = .ok (.aload_n 1, 1) := by decide +kernel
theorem dX_law_524 : decode mX_law.2.1 524 = .ok (.aload_n 0, 1) := by decide +kernel
theorem dX_law_525 : decode mX_law.2.1 525 = .ok (.iload_n 3, 1) := by decide +kernel
theorem dX_law_526 : decode mX_law.2.1 526 = .ok (.iconst 1, 1) := by decide +kernel
theorem dX_law_527 : decode mX_law.2.1 527 = .ok (.iadd, 1) := by decide +kernel
theorem dX_law_528 : decode mX_law.2.1 528 = .ok (.iaload, 1) := by decide +kernel
theorem dX_law_529 : decode mX_law.2.1 529 = .ok (.invokevirtual 54, 3) := by decide +kernel
theorem dX_law_532 : decode mX_law.2.1 532 = .ok (.pop, 1) := by decide +kernel
theorem dX_law_533 : decode mX_law.2.1 533 = .ok (.aload_n 2, 1) := by decide +kernel
theorem dX_law_534 : decode mX_law.2.1 534 = .ok (.aload_n 0, 1) := by decide +kernel
theorem dX_law_535 : decode mX_law.2.1 535 = .ok (.iload_n 3, 1) := by decide +kernel
theorem dX_law_536 : decode mX_law.2.1 536 = .ok (.iconst 1, 1) := by decide +kernel
theorem dX_law_537 : decode mX_law.2.1 537 = .ok (.iadd, 1) := by decide +kernel
theorem dX_law_538 : decode mX_law.2.1 538 = .ok (.iaload, 1) := by decide +kernel
theorem dX_law_539 : decode mX_law.2.1 539 = .ok (.invokevirtual 57, 3) := by decide +kernel
theorem dX_law_542 : decode mX_law.2.1 542 = .ok (.pop, 1) := by decide +kernel
theorem dX_law_543 : decode mX_law.2.1 543 = .ok (.goto 608, 3) := by decide +kernel
theorem dX_law_546 : decode mX_law.2.1 546 = .ok (.aload_n 1, 1) := by decide +kernel
theorem dX_law_547 : decode mX_law.2.1 547 = .ok (.aload_n 0, 1) := by decide +kernel
theorem dX_law_548 : decode mX_law.2.1 548 = .ok (.iload_n 3, 1) := by decide +kernel
theorem dX_law_549 : decode mX_law.2.1 549 = .ok (.iconst 1, 1) := by decide +kernel
theorem dX_law_550 : decode mX_law.2.1 550 = .ok (.iadd, 1) := by decide +kernel
theorem dX_law_551 : decode mX_law.2.1 551 = .ok (.iaload, 1) := by decide +kernel
theorem dX_law_552 : decode mX_law.2.1 552 = .ok (.invokevirtual 58, 3) := by decide +kernel
theorem dX_law_555 : decode mX_law.2.1 555 = .ok (.pop, 1) := by decide +kernel
theorem dX_law_556 : decode mX_law.2.1 556 = .ok (.aload_n 2, 1) := by decide +kernel
theorem dX_law_557 : decode mX_law.2.1 557 = .ok (.aload_n 0, 1) := by decide +kernel
theorem dX_law_558 : decode mX_law.2.1 558 = .ok (.iload_n 3, 1) := by decide +kernel
theorem dX_law_559 : decode mX_law.2.1 559 = .ok (.iconst 1, 1) := by decide +kernel
theorem dX_law_560 : decode mX_law.2.1 560 = .ok (.iadd, 1) := by decide +kernel
theorem dX_law_561 : decode mX_law.2.1 561 = .ok (.iaload, 1) := by decide +kernel
theorem dX_law_562 : decode mX_law.2.1 562 = .ok (.invokevirtual 61, 3) := by decide +kernel
theorem dX_law_565 : decode mX_law.2.1 565 = .ok (.pop, 1) := by decide +kernel
theorem dX_law_566 : decode mX_law.2.1 566 = .ok (.goto 585, 3) := by decide +kernel
theorem dX_law_569 : decode mX_law.2.1 569 = .ok (.aload_n 1, 1) := by decide +kernel
theorem dX_law_570 : decode mX_law.2.1 570 = .ok (.aload_n 0, 1) := by decide +kernel
theorem dX_law_571 : decode mX_law.2.1 571 = .ok (.iload_n 3, 1) := by decide +kernel
theorem dX_law_572 : decode mX_law.2.1 572 = .ok (.iconst 1, 1) := by decide +kernel
theorem dX_law_573 : decode mX_law.2.1 573 = .ok (.iadd, 1) := by decide +kernel
theorem dX_law_574 : decode mX_law.2.1 574 = .ok (.iaload, 1) := by decide +kernel
theorem dX_law_575 : decode mX_law.2.1 575 = .ok (.aload_n 0, 1) := by decide +kernel
theorem dX_law_576 : decode mX_law.2.1 576 = .ok (.iload_n 3, 1) := by decide +kernel
theorem dX_law_577 : decode mX_law.2.1 577 = .ok (.iconst 2, 1) := by decide +kernel
theorem dX_law_578 : decode mX_law.2.1 578 = .ok (.iadd, 1) := by decide +kernel
theorem dX_law_579 : decode mX_law.2.1 579 = .ok (.iaload, 1) := by decide +kernel
theorem dX_law_580 : decode mX_law.2.1 580 = .ok (.aload_n 0, 1) := by decide +kernel
theorem dX_law_581 : decode mX_law.2.1 581 = .ok (.iload_n 3, 1) := by decide +kernel
theorem dX_law_582 : decode mX_law.2.1 582 = .ok (.iconst 3, 1) := by decide +kernel
theorem dX_law_583 : decode mX_law.2.1 583 = .ok (.iadd, 1) := by decide +kernel
theorem dX_law_584 : decode mX_law.2.1 584 = .ok (.iaload, 1) := by decide +kernel
theorem dX_law_585 : decode mX_law.2.1 585 = .ok (.ifCond .eq 7, 3) := by decide +kernel
theorem dX_law_588 : decode mX_law.2.1 588 = .ok (.iconst 1, 1) := by decide +kernel
theorem dX_law_589 : decode mX_law.2.1 589 = .ok (.goto 4, 3) := by decide +kernel
theorem dX_law_592 : decode mX_law.2.1 592 = .ok (.iconst 0, 1) := by decide +kernel
theorem dX_law_593 : decode mX_law.2.1 593 = .ok (.invokevirtual 62, 3) := by decide +kernel
theorem dX_law_596 : decode mX_law.2.1 596 = .ok (.pop, 1) := by decide +kernel
theorem dX_law_597 : decode mX_law.2.1 597 = .ok (.aload_n 2, 1) := by decide +kernel
theorem dX_law_598 : decode mX_law.2.1 598 = .ok (.aload_n 0, 1) := by decide +kernel
theorem dX_law_599 : decode mX_law.2.1 599 = .ok (.iload_n 3, 1) := by decide +kernel
theorem dX_law_600 : decode mX_law.2.1 600 = .ok (.iconst 1, 1) := by decide +kernel
theorem dX_law_601 : decode mX_law.2.1 601 = .ok (.iadd, 1) := by decide +kernel
theorem dX_law_602 : decode mX_law.2.1 602 = .ok (.iaload, 1) := by decide +kernel
theorem dX_law_603 : decode mX_law.2.1 603 = .ok (.aload_n 0, 1) := by decide +kernel
theorem dX_law_604 : decode mX_law.2.1 604 = .ok (.iload_n 3, 1) := by decide +kernel
theorem dX_law_605 : decode mX_law.2.1 605 = .ok (.iconst 2, 1) := by decide +kernel
theorem dX_law_606 : decode mX_law.2.1 606 = .ok (.iadd, 1) := by decide +kernel
theorem dX_law_607 : decode mX_law.2.1 607 = .ok (.iaload, 1) := by decide +kernel
theorem dX_law_608 : decode mX_law.2.1 608 = .ok (.aload_n 0, 1) := by decide +kernel
theorem dX_law_609 : decode mX_law.2.1 609 = .ok (.iload_n 3, 1) := by decide +kernel
theorem dX_law_610 : decode mX_law.2.1 610 = .ok (.iconst 3, 1) := by decide +kernel
theorem dX_law_611 : decode mX_law.2.1 611 = .ok (.iadd, 1) := by decide +kernel
theorem dX_law_612 : decode mX_law.2.1 612 = .ok (.iaload, 1) := by decide +kernel
theorem dX_law_613 : decode mX_law.2.1 613 = .ok (.ifCond .eq 7, 3) := by decide +kernel
theorem dX_law_616 : decode mX_law.2.1 616 = .ok (.iconst 1, 1) := by decide +kernel
theorem dX_law_617 : decode mX_law.2.1 617 = .ok (.goto 4, 3) := by decide +kernel
theorem dX_law_620 : decode mX_law.2.1 620 = .ok (.iconst 0, 1) := by decide +kernel
theorem dX_law_621 : decode mX_law.2.1 621 = .ok (.invokevirtual 66, 3) := by decide +kernel
theorem dX_law_624 : decode mX_law.2.1 624 = .ok (.pop, 1) := by decide +kernel
theorem dX_law_625 : decode mX_law.2.1 625 = .ok (.goto 526, 3) := by decide +kernel
theorem dX_law_628 : decode mX_law.2.1 628 = .ok (.aload_n 1, 1) := by decide +kernel
theorem dX_law_629 : decode mX_law.2.1 629 = .ok (.aload_n 0, 1) := by decide +kernel
theorem dX_law_630 : decode mX_law.2.1 630 = .ok (.iload_n 3, 1) := by decide +kernel
theorem dX_law_631 : decode mX_law.2.1 631 = .ok (.iconst 1, 1) := by decide +kernel
theorem dX_law_632 : decode mX_law.2.1 632 = .ok (.iadd, 1) := by decide +kernel
theorem dX_law_633 : decode mX_law.2.1 633 = .ok (.iaload, 1) := by decide +kernel
theorem dX_law_634 : decode mX_law.2.1 634 = .ok (.invokevirtual 67, 3) := by decide +kernel
theorem dX_law_637 : decode mX_law.2.1 637 = .ok (.pop, 1) := by decide +kernel
theorem dX_law_638 : decode mX_law.2.1 638 = .ok (.aload_n 2, 1) := by decide +kernel
theorem dX_law_639 : decode mX_law.2.1 639 = .ok (.aload_n 0, 1) := by decide +kernel
theorem dX_law_640 : decode mX_law.2.1 640 = .ok (.iload_n 3, 1) := by decide +kernel
theorem dX_law_641 : decode mX_law.2.1 641 = .ok (.iconst 1, 1) := by decide +kernel
theorem dX_law_642 : decode mX_law.2.1 642 = .ok (.iadd, 1) := by decide +kernel
theorem dX_law_643 : decode mX_law.2.1 643 = .ok (.iaload, 1) := by decide +kernel
theorem dX_law_644 : decode mX_law.2.1 644 = .ok (.invokevirtual 70, 3) := by decide +kernel
theorem dX_law_647 : decode mX_law.2.1 647 = .ok (.pop, 1) := by decide +kernel
theorem dX_law_648 : decode mX_law.2.1 648 = .ok (.goto 503, 3) := by decide +kernel
theorem dX_law_651 : decode mX_law.2.1 651 = .ok (.aload_n 1, 1) := by decide +kernel
theorem dX_law_652 : decode mX_law.2.1 652 = .ok (.invokevirtual 71, 3) := by decide +kernel
theorem dX_law_655 : decode mX_law.2.1 655 = .ok (.pop, 1) := by decide +kernel
theorem dX_law_656 : decode mX_law.2.1 656 = .ok (.aload_n 2, 1) := by decide +kernel
theorem dX_law_657 : decode mX_law.2.1 657 = .ok (.invokevirtual 75, 3) := by decide +kernel
theorem dX_law_660 : decode mX_law.2.1 660 = .ok (.pop, 1) := by decide +kernel
theorem dX_law_661 : decode mX_law.2.1 661 = .ok (.goto 490, 3) := by decide +kernel
theorem dX_law_664 : decode mX_law.2.1 664 = .ok (.aload_n 1, 1) := by decide +kernel
theorem dX_law_665 : decode mX_law.2.1 665 = .ok (.aload_n 0, 1) := by decide +kernel
theorem dX_law_666 : decode mX_law.2.1 666 = .ok (.iload_n 3, 1) := by decide +kernel
theorem dX_law_667 : decode mX_law.2.1 667 = .ok (.iconst 1, 1) := by decide +kernel
theorem dX_law_668 : decode mX_law.2.1 668 = .ok (.iadd, 1) := by decide +kernel
theorem dX_law_669 : decode mX_law.2.1 669 = .ok (.iaload, 1) := by decide +kernel
theorem dX_law_670 : decode mX_law.2.1 670 = .ok (.invokevirtual 76, 3) := by decide +kernel
theorem dX_law_673 : decode mX_law.2.1 673 = .ok (.pop, 1) := by decide +kernel
theorem dX_law_674 : decode mX_law.2.1 674 = .ok (.aload_n 2, 1) := by decide +kernel
theorem dX_law_675 : decode mX_law.2.1 675 = .ok (.aload_n 0, 1) := by decide +kernel
theorem dX_law_676 : decode mX_law.2.1 676 = .ok (.iload_n 3, 1) := by decide +kernel
theorem dX_law_677 : decode mX_law.2.1 677 = .ok (.iconst 1, 1) := by decide +kernel
theorem dX_law_678 : decode mX_law.2.1 678 = .ok (.iadd, 1) := by decide +kernel
theorem dX_law_679 : decode mX_law.2.1 679 = .ok (.iaload, 1) := by decide +kernel
theorem dX_law_680 : decode mX_law.2.1 680 = .ok (.invokevirtual 79, 3) := by decide +kernel
theorem dX_law_683 : decode mX_law.2.1 683 = .ok (.pop, 1) := by decide +kernel
theorem dX_law_684 : decode mX_law.2.1 684 = .ok (.goto 467, 3) := by decide +kernel
theorem dX_law_687 : decode mX_law.2.1 687 = .ok (.aload_n 1, 1) := by decide +kernel
theorem dX_law_688 : decode mX_law.2.1 688 = .ok (.aload_n 0, 1) := by decide +kernel
theorem dX_law_689 : decode mX_law.2.1 689 = .ok (.iload_n 3, 1) := by decide +kernel
theorem dX_law_690 : decode mX_law.2.1 690 = .ok (.iconst 1, 1) := by decide +kernel
theorem dX_law_691 : decode mX_law.2.1 691 = .ok (.iadd, 1) := by decide +kernel
theorem dX_law_692 : decode mX_law.2.1 692 = .ok (.iaload, 1) := by decide +kernel
theorem dX_law_693 : decode mX_law.2.1 693 = .ok (.invokevirtual 80, 3) := by decide +kernel
theorem dX_law_696 : decode mX_law.2.1 696 = .ok (.pop, 1) := by decide +kernel
theorem dX_law_697 : decode mX_law.2.1 697 = .ok (.aload_n 2, 1) := by decide +kernel
theorem dX_law_698 : decode mX_law.2.1 698 = .ok (.aload_n 0, 1) := by decide +kernel
theorem dX_law_699 : decode mX_law.2.1 699 = .ok (.iload_n 3, 1) := by decide +kernel
theorem dX_law_700 : decode mX_law.2.1 700 = .ok (.iconst 1, 1) := by decide +kernel
theorem dX_law_701 : decode mX_law.2.1 701 = .ok (.iadd, 1) := by decide +kernel
theorem dX_law_702 : decode mX_law.2.1 702 = .ok (.iaload, 1) := by decide +kernel
theorem dX_law_703 : decode mX_law.2.1 703 = .ok (.invokevirtual 83, 3) := by decide +kernel
theorem dX_law_706 : decode mX_law.2.1 706 = .ok (.pop, 1) := by decide +kernel
theorem dX_law_707 : decode mX_law.2.1 707 = .ok (.goto 444, 3) := by decide +kernel
theorem dX_law_710 : decode mX_law.2.1 710 = .ok (.aload_n 1, 1) := by decide +kernel
theorem dX_law_711 : decode mX_law.2.1 711 = .ok (.aload_n 0, 1) := by decide +kernel
theorem dX_law_712 : decode mX_law.2.1 712 = .ok (.iload_n 3, 1) := by decide +kernel
theorem dX_law_713 : decode mX_law.2.1 713 = .ok (.iconst 1, 1) := by decide +kernel
theorem dX_law_714 : decode mX_law.2.1 714 = .ok (.iadd, 1) := by decide +kernel
theorem dX_law_715 : decode mX_law.2.1 715 = .ok (.iaload, 1) := by decide +kernel
theorem dX_law_716 : decode mX_law.2.1 716 = .ok (.invokevirtual 84, 3) := by decide +kernel
theorem dX_law_719 : decode mX_law.2.1 719 = .ok (.pop, 1) := by decide +kernel
theorem dX_law_720 : decode mX_law.2.1 720 = .ok (.aload_n 2, 1) := by decide +kernel
theorem dX_law_721 : decode mX_law.2.1 721 = .ok (.aload_n 0, 1) := by decide +kernel
theorem dX_law_722 : decode mX_law.2.1 722 = .ok (.iload_n 3, 1) := by decide +kernel
theorem dX_law_723 : decode mX_law.2.1 723 = .ok (.iconst 1, 1) := by decide +kernel
theorem dX_law_724 : decode mX_law.2.1 724 = .ok (.iadd, 1) := by decide +kernel
theorem dX_law_725 : decode mX_law.2.1 725 = .ok (.iaload, 1) := by decide +kernel
theorem dX_law_726 : decode mX_law.2.1 726 = .ok (.invokevirtual 87, 3) := by decide +kernel
theorem dX_law_729 : decode mX_law.2.1 729 = .ok (.pop, 1) := by decide +kernel
theorem dX_law_730 : decode mX_law.2.1 730 = .ok (.goto 421, 3) := by decide +kernel
theorem dX_law_733 : decode mX_law.2.1 733 = .ok (.aload_n 1, 1) := by decide +kernel
theorem dX_law_734 : decode mX_law.2.1 734 = .ok (.aload_n 0, 1) := by decide +kernel
theorem dX_law_735 : decode mX_law.2.1 735 = .ok (.iload_n 3, 1) := by decide +kernel
theorem dX_law_736 : decode mX_law.2.1 736 = .ok (.iconst 1, 1) := by decide +kernel
theorem dX_law_737 : decode mX_law.2.1 737 = .ok (.iadd, 1) := by decide +kernel
theorem dX_law_738 : decode mX_law.2.1 738 = .ok (.iaload, 1) := by decide +kernel
theorem dX_law_739 : decode mX_law.2.1 739 = .ok (.aload_n 0, 1) := by decide +kernel
theorem dX_law_740 : decode mX_law.2.1 740 = .ok (.iload_n 3, 1) := by decide +kernel
theorem dX_law_741 : decode mX_law.2.1 741 = .ok (.iconst 2, 1) := by decide +kernel
theorem dX_law_742 : decode mX_law.2.1 742 = .ok (.iadd, 1) := by decide +kernel
theorem dX_law_743 : decode mX_law.2.1 743 = .ok (.iaload, 1) := by decide +kernel
theorem dX_law_744 : decode mX_law.2.1 744 = .ok (.aload_n 0, 1) := by decide +kernel
theorem dX_law_745 : decode mX_law.2.1 745 = .ok (.iload_n 3, 1) := by decide +kernel
theorem dX_law_746 : decode mX_law.2.1 746 = .ok (.iconst 3, 1) := by decide +kernel
theorem dX_law_747 : decode mX_law.2.1 747 = .ok (.iadd, 1) := by decide +kernel
theorem dX_law_748 : decode mX_law.2.1 748 = .ok (.iaload, 1) := by decide +kernel
theorem dX_law_749 : decode mX_law.2.1 749 = .ok (.aload_n 0, 1) := by decide +kernel
theorem dX_law_750 : decode mX_law.2.1 750 = .ok (.iload_n 3, 1) := by decide +kernel
theorem dX_law_751 : decode mX_law.2.1 751 = .ok (.iconst 4, 1) := by decide +kernel
theorem dX_law_752 : decode mX_law.2.1 752 = .ok (.iadd, 1) := by decide +kernel
theorem dX_law_753 : decode mX_law.2.1 753 = .ok (.iaload, 1) := by decide +kernel
theorem dX_law_754 : decode mX_law.2.1 754 = .ok (.aload_n 0, 1) := by decide +kernel
theorem dX_law_755 : decode mX_law.2.1 755 = .ok (.iload_n 3, 1) := by decide +kernel
theorem dX_law_756 : decode mX_law.2.1 756 = .ok (.iconst 5, 1) := by decide +kernel
theorem dX_law_757 : decode mX_law.2.1 757 = .ok (.iadd, 1) := by decide +kernel
theorem dX_law_758 : decode mX_law.2.1 758 = .ok (.iaload, 1) := by decide +kernel
theorem dX_law_759 : decode mX_law.2.1 759 = .ok (.aload_n 0, 1) := by decide +kernel
theorem dX_law_760 : decode mX_law.2.1 760 = .ok (.iload_n 3, 1) := by decide +kernel
theorem dX_law_761 : decode mX_law.2.1 761 = .ok (.bipush 6, 2) := by decide +kernel
theorem dX_law_763 : decode mX_law.2.1 763 = .ok (.iadd, 1) := by decide +kernel
theorem dX_law_764 : decode mX_law.2.1 764 = .ok (.iaload, 1) := by decide +kernel
theorem dX_law_765 : decode mX_law.2.1 765 = .ok (.invokevirtual 88, 3) := by decide +kernel
theorem dX_law_768 : decode mX_law.2.1 768 = .ok (.pop2, 1) := by decide +kernel
theorem dX_law_769 : decode mX_law.2.1 769 = .ok (.aload_n 2, 1) := by decide +kernel
theorem dX_law_770 : decode mX_law.2.1 770 = .ok (.aload_n 0, 1) := by decide +kernel
theorem dX_law_771 : decode mX_law.2.1 771 = .ok (.iload_n 3, 1) := by decide +kernel
theorem dX_law_772 : decode mX_law.2.1 772 = .ok (.iconst 1, 1) := by decide +kernel
theorem dX_law_773 : decode mX_law.2.1 773 = .ok (.iadd, 1) := by decide +kernel
theorem dX_law_774 : decode mX_law.2.1 774 = .ok (.iaload, 1) := by decide +kernel
theorem dX_law_775 : decode mX_law.2.1 775 = .ok (.aload_n 0, 1) := by decide +kernel
theorem dX_law_776 : decode mX_law.2.1 776 = .ok (.iload_n 3, 1) := by decide +kernel
theorem dX_law_777 : decode mX_law.2.1 777 = .ok (.iconst 2, 1) := by decide +kernel
theorem dX_law_778 : decode mX_law.2.1 778 = .ok (.iadd, 1) := by decide +kernel
theorem dX_law_779 : decode mX_law.2.1 779 = .ok (.iaload, 1) := by decide +kernel
theorem dX_law_780 : decode mX_law.2.1 780 = .ok (.aload_n 0, 1) := by decide +kernel
theorem dX_law_781 : decode mX_law.2.1 781 = .ok (.iload_n 3, 1) := by decide +kernel
theorem dX_law_782 : decode mX_law.2.1 782 = .ok (.iconst 3, 1) := by decide +kernel
theorem dX_law_783 : decode mX_law.2.1 783 = .ok (.iadd, 1) := by decide +kernel
theorem dX_law_784 : decode mX_law.2.1 784 = .ok (.iaload, 1) := by decide +kernel
theorem dX_law_785 : decode mX_law.2.1 785 = .ok (.aload_n 0, 1) := by decide +kernel
theorem dX_law_786 : decode mX_law.2.1 786 = .ok (.iload_n 3, 1) := by decide +kernel
theorem dX_law_787 : decode mX_law.2.1 787 = .ok (.iconst 4, 1) := by decide +kernel
theorem dX_law_788 : decode mX_law.2.1 788 = .ok (.iadd, 1) := by decide +kernel
theorem dX_law_789 : decode mX_law.2.1 789 = .ok (.iaload, 1) := by decide +kernel
theorem dX_law_790 : decode mX_law.2.1 790 = .ok (.aload_n 0, 1) := by decide +kernel
theorem dX_law_791 : decode mX_law.2.1 791 = .ok (.iload_n 3, 1) := by decide +kernel
theorem dX_law_792 : decode mX_law.2.1 792 = .ok (.iconst 5, 1) := by decide +kernel
theorem dX_law_793 : decode mX_law.2.1 793 = .ok (.iadd, 1) := by decide +kernel
theorem dX_law_794 : decode mX_law.2.1 794 = .ok (.iaload, 1) := by decide +kernel
theorem dX_law_795 : decode mX_law.2.1 795 = .ok (.aload_n 0, 1) := by decide +kernel
theorem dX_law_796 : decode mX_law.2.1 796 = .ok (.iload_n 3, 1) := by decide +kernel
theorem dX_law_797 : decode mX_law.2.1 797 = .ok (.bipush 6, 2) := by decide +kernel
theorem dX_law_799 : decode mX_law.2.1 799 = .ok (.iadd, 1) := by decide +kernel
theorem dX_law_800 : decode mX_law.2.1 800 = .ok (.iaload, 1) := by decide +kernel
theorem dX_law_801 : decode mX_law.2.1 801 = .ok (.invokevirtual 92, 3) := by decide +kernel
theorem dX_law_804 : decode mX_law.2.1 804 = .ok (.pop2, 1) := by decide +kernel
theorem dX_law_805 : decode mX_law.2.1 805 = .ok (.goto 346, 3) := by decide +kernel
theorem dX_law_808 : decode mX_law.2.1 808 = .ok (.aload_n 1, 1) := by decide +kernel
theorem dX_law_809 : decode mX_law.2.1 809 = .ok (.aload_n 0, 1) := by decide +kernel
theorem dX_law_810 : decode mX_law.2.1 810 = .ok (.iload_n 3, 1) := by decide +kernel
theorem dX_law_811 : decode mX_law.2.1 811 = .ok (.iconst 1, 1) := by decide +kernel
theorem dX_law_812 : decode mX_law.2.1 812 = .ok (.iadd, 1) := by decide +kernel
theorem dX_law_813 : decode mX_law.2.1 813 = .ok (.iaload, 1) := by decide +kernel
theorem dX_law_814 : decode mX_law.2.1 814 = .ok (.aload_n 0, 1) := by decide +kernel
theorem dX_law_815 : decode mX_law.2.1 815 = .ok (.iload_n 3, 1) := by decide +kernel
theorem dX_law_816 : decode mX_law.2.1 816 = .ok (.iconst 2, 1) := by decide +kernel
theorem dX_law_817 : decode mX_law.2.1 817 = .ok (.iadd, 1) := by decide +kernel
theorem dX_law_818 : decode mX_law.2.1 818 = .ok (.iaload, 1) := by decide +kernel
theorem dX_law_819 : decode mX_law.2.1 819 = .ok (.aload_n 0, 1) := by decide +kernel
theorem dX_law_820 : decode mX_law.2.1 820 = .ok (.iload_n 3, 1) := by decide +kernel
theorem dX_law_821 : decode mX_law.2.1 821 = .ok (.iconst 3, 1) := by decide +kernel
theorem dX_law_822 : decode mX_law.2.1 822 = .ok (.iadd, 1) := by decide +kernel
theorem dX_law_823 : decode mX_law.2.1 823 = .ok (.iaload, 1) := by decide +kernel
theorem dX_law_824 : decode mX_law.2.1 824 = .ok (.invokevirtual 93, 3) := by decide +kernel
theorem dX_law_827 : decode mX_law.2.1 827 = .ok (.pop, 1) := by decide +kernel
theorem dX_law_828 : decode mX_law.2.1 828 = .ok (.aload_n 2, 1) := by decide +kernel
theorem dX_law_829 : decode mX_law.2.1 829 = .ok (.aload_n 0, 1) := by decide +kernel
theorem dX_law_830 : decode mX_law.2.1 830 = .ok (.iload_n 3, 1) := by decide +kernel
theorem dX_law_831 : decode mX_law.2.1 831 = .ok (.iconst 1, 1) := by decide +kernel
theorem dX_law_832 : decode mX_law.2.1 832 = .ok (.iadd, 1) := by decide +kernel
theorem dX_law_833 : decode mX_law.2.1 833 = .ok (.iaload, 1) := by decide +kernel
theorem dX_law_834 : decode mX_law.2.1 834 = .ok (.aload_n 0, 1) := by decide +kernel
theorem dX_law_835 : decode mX_law.2.1 835 = .ok (.iload_n 3, 1) := by decide +kernel
theorem dX_law_836 : decode mX_law.2.1 836 = .ok (.iconst 2, 1) := by decide +kernel
theorem dX_law_837 : decode mX_law.2.1 837 = .ok (.iadd, 1) := by decide +kernel
theorem dX_law_838 : decode mX_law.2.1 838 = .ok (.iaload, 1) := by decide +kernel
theorem dX_law_839 : decode mX_law.2.1 839 = .ok (.aload_n 0, 1) := by decide +kernel
theorem dX_law_840 : decode mX_law.2.1 840 = .ok (.iload_n 3, 1) := by decide +kernel
theorem dX_law_841 : decode mX_law.2.1 841 = .ok (.iconst 3, 1) := by decide +kernel
theorem dX_law_842 : decode mX_law.2.1 842 = .ok (.iadd, 1) := by decide +kernel
theorem dX_law_843 : decode mX_law.2.1 843 = .ok (.iaload, 1) := by decide +kernel
theorem dX_law_844 : decode mX_law.2.1 844 = .ok (.invokevirtual 97, 3) := by decide +kernel
theorem dX_law_847 : decode mX_law.2.1 847 = .ok (.pop, 1) := by decide +kernel
theorem dX_law_848 : decode mX_law.2.1 848 = .ok (.goto 303, 3) := by decide +kernel
theorem dX_law_851 : decode mX_law.2.1 851 = .ok (.aload_n 1, 1) := by decide +kernel
theorem dX_law_852 : decode mX_law.2.1 852 = .ok (.aload_n 0, 1) := by decide +kernel
theorem dX_law_853 : decode mX_law.2.1 853 = .ok (.iload_n 3, 1) := by decide +kernel
theorem dX_law_854 : decode mX_law.2.1 854 = .ok (.iconst 1, 1) := by decide +kernel
theorem dX_law_855 : decode mX_law.2.1 855 = .ok (.iadd, 1) := by decide +kernel
theorem dX_law_856 : decode mX_law.2.1 856 = .ok (.iaload, 1) := by decide +kernel
theorem dX_law_857 : decode mX_law.2.1 857 = .ok (.invokevirtual 98, 3) := by decide +kernel
theorem dX_law_860 : decode mX_law.2.1 860 = .ok (.pop, 1) := by decide +kernel
theorem dX_law_861 : decode mX_law.2.1 861 = .ok (.aload_n 2, 1) := by decide +kernel
theorem dX_law_862 : decode mX_law.2.1 862 = .ok (.aload_n 0, 1) := by decide +kernel
theorem dX_law_863 : decode mX_law.2.1 863 = .ok (.iload_n 3, 1) := by decide +kernel
theorem dX_law_864 : decode mX_law.2.1 864 = .ok (.iconst 1, 1) := by decide +kernel
theorem dX_law_865 : decode mX_law.2.1 865 = .ok (.iadd, 1) := by decide +kernel
theorem dX_law_866 : decode mX_law.2.1 866 = .ok (.iaload, 1) := by decide +kernel
theorem dX_law_867 : decode mX_law.2.1 867 = .ok (.invokevirtual 101, 3) := by decide +kernel
theorem dX_law_870 : decode mX_law.2.1 870 = .ok (.pop, 1) := by decide +kernel
theorem dX_law_871 : decode mX_law.2.1 871 = .ok (.goto 280, 3) := by decide +kernel
theorem dX_law_874 : decode mX_law.2.1 874 = .ok (.aload_n 1, 1) := by decide +kernel
theorem dX_law_875 : decode mX_law.2.1 875 = .ok (.aload_n 0, 1) := by decide +kernel
theorem dX_law_876 : decode mX_law.2.1 876 = .ok (.iload_n 3, 1) := by decide +kernel
theorem dX_law_877 : decode mX_law.2.1 877 = .ok (.iconst 1, 1) := by decide +kernel
theorem dX_law_878 : decode mX_law.2.1 878 = .ok (.iadd, 1) := by decide +kernel
theorem dX_law_879 : decode mX_law.2.1 879 = .ok (.iaload, 1) := by decide +kernel
theorem dX_law_880 : decode mX_law.2.1 880 = .ok (.aload_n 0, 1) := by decide +kernel
theorem dX_law_881 : decode mX_law.2.1 881 = .ok (.iload_n 3, 1) := by decide +kernel
theorem dX_law_882 : decode mX_law.2.1 882 = .ok (.iconst 2, 1) := by decide +kernel
theorem dX_law_883 : decode mX_law.2.1 883 = .ok (.iadd, 1) := by decide +kernel
theorem dX_law_884 : decode mX_law.2.1 884 = .ok (.iaload, 1) := by decide +kernel
theorem dX_law_885 : decode mX_law.2.1 885 = .ok (.aload_n 0, 1) := by decide +kernel
theorem dX_law_886 : decode mX_law.2.1 886 = .ok (.iload_n 3, 1) := by decide +kernel
theorem dX_law_887 : decode mX_law.2.1 887 = .ok (.iconst 3, 1) := by decide +kernel
theorem dX_law_888 : decode mX_law.2.1 888 = .ok (.iadd, 1) := by decide +kernel
theorem dX_law_889 : decode mX_law.2.1 889 = .ok (.iaload, 1) := by decide +kernel
theorem dX_law_890 : decode mX_law.2.1 890 = .ok (.invokevirtual 102, 3) := by decide +kernel
theorem dX_law_893 : decode mX_law.2.1 893 = .ok (.pop, 1) := by decide +kernel
theorem dX_law_894 : decode mX_law.2.1 894 = .ok (.aload_n 2, 1) := by decide +kernel
theorem dX_law_895 : decode mX_law.2.1 895 = .ok (.aload_n 0, 1) := by decide +kernel
theorem dX_law_896 : decode mX_law.2.1 896 = .ok (.iload_n 3, 1) := by decide +kernel
theorem dX_law_897 : decode mX_law.2.1 897 = .ok (.iconst 1, 1) := by decide +kernel
theorem dX_law_898 : decode mX_law.2.1 898 = .ok (.iadd, 1) := by decide +kernel
theorem dX_law_899 : decode mX_law.2.1 899 = .ok (.iaload, 1) := by decide +kernel
theorem dX_law_900 : decode mX_law.2.1 900 = .ok (.aload_n 0, 1) := by decide +kernel
theorem dX_law_901 : decode mX_law.2.1 901 = .ok (.iload_n 3, 1) := by decide +kernel
theorem dX_law_902 : decode mX_law.2.1 902 = .ok (.iconst 2, 1) := by decide +kernel
theorem dX_law_903 : decode mX_law.2.1 903 = .ok (.iadd, 1) := by decide +kernel
theorem dX_law_904 : decode mX_law.2.1 904 = .ok (.iaload, 1) := by decide +kernel
theorem dX_law_905 : decode mX_law.2.1 905 = .ok (.aload_n 0, 1) := by decide +kernel
theorem dX_law_906 : decode mX_law.2.1 906 = .ok (.iload_n 3, 1) := by decide +kernel
theorem dX_law_907 : decode mX_law.2.1 907 = .ok (.iconst 3, 1) := by decide +kernel
theorem dX_law_908 : decode mX_law.2.1 908 = .ok (.iadd, 1) := by decide +kernel
theorem dX_law_909 : decode mX_law.2.1 909 = .ok (.iaload, 1) := by decide +kernel
theorem dX_law_910 : decode mX_law.2.1 910 = .ok (.invokevirtual 105, 3) := by decide +kernel
theorem dX_law_913 : decode mX_law.2.1 913 = .ok (.pop, 1) := by decide +kernel
theorem dX_law_914 : decode mX_law.2.1 914 = .ok (.goto 237, 3) := by decide +kernel
theorem dX_law_917 : decode mX_law.2.1 917 = .ok (.aload_n 1, 1) := by decide +kernel
theorem dX_law_918 : decode mX_law.2.1 918 = .ok (.aload_n 0, 1) := by decide +kernel
theorem dX_law_919 : decode mX_law.2.1 919 = .ok (.iload_n 3, 1) := by decide +kernel
theorem dX_law_920 : decode mX_law.2.1 920 = .ok (.iconst 1, 1) := by decide +kernel
theorem dX_law_921 : decode mX_law.2.1 921 = .ok (.iadd, 1) := by decide +kernel
theorem dX_law_922 : decode mX_law.2.1 922 = .ok (.iaload, 1) := by decide +kernel
theorem dX_law_923 : decode mX_law.2.1 923 = .ok (.aload_n 0, 1) := by decide +kernel
theorem dX_law_924 : decode mX_law.2.1 924 = .ok (.iload_n 3, 1) := by decide +kernel
theorem dX_law_925 : decode mX_law.2.1 925 = .ok (.iconst 2, 1) := by decide +kernel
theorem dX_law_926 : decode mX_law.2.1 926 = .ok (.iadd, 1) := by decide +kernel
theorem dX_law_927 : decode mX_law.2.1 927 = .ok (.iaload, 1) := by decide +kernel
theorem dX_law_928 : decode mX_law.2.1 928 = .ok (.aload_n 0, 1) := by decide +kernel
theorem dX_law_929 : decode mX_law.2.1 929 = .ok (.iload_n 3, 1) := by decide +kernel
theorem dX_law_930 : decode mX_law.2.1 930 = .ok (.iconst 3, 1) := by decide +kernel
theorem dX_law_931 : decode mX_law.2.1 931 = .ok (.iadd, 1) := by decide +kernel
theorem dX_law_932 : decode mX_law.2.1 932 = .ok (.iaload, 1) := by decide +kernel
theorem dX_law_933 : decode mX_law.2.1 933 = .ok (.invokevirtual 106, 3) := by decide +kernel
theorem dX_law_936 : decode mX_law.2.1 936 = .ok (.pop2, 1) := by decide +kernel
theorem dX_law_937 : decode mX_law.2.1 937 = .ok (.aload_n 2, 1) := by decide +kernel
theorem dX_law_938 : decode mX_law.2.1 938 = .ok (.aload_n 0, 1) := by decide +kernel
theorem dX_law_939 : decode mX_law.2.1 939 = .ok (.iload_n 3, 1) := by decide +kernel
theorem dX_law_940 : decode mX_law.2.1 940 = .ok (.iconst 1, 1) := by decide +kernel
theorem dX_law_941 : decode mX_law.2.1 941 = .ok (.iadd, 1) := by decide +kernel
theorem dX_law_942 : decode mX_law.2.1 942 = .ok (.iaload, 1) := by decide +kernel
theorem dX_law_943 : decode mX_law.2.1 943 = .ok (.aload_n 0, 1) := by decide +kernel
theorem dX_law_944 : decode mX_law.2.1 944 = .ok (.iload_n 3, 1) := by decide +kernel
theorem dX_law_945 : decode mX_law.2.1 945 = .ok (.iconst 2, 1) := by decide +kernel
theorem dX_law_946 : decode mX_law.2.1 946 = .ok (.iadd, 1) := by decide +kernel
theorem dX_law_947 : decode mX_law.2.1 947 = .ok (.iaload, 1) := by decide +kernel
theorem dX_law_948 : decode mX_law.2.1 948 = .ok (.aload_n 0, 1) := by decide +kernel
theorem dX_law_949 : decode mX_law.2.1 949 = .ok (.iload_n 3, 1) := by decide +kernel
theorem dX_law_950 : decode mX_law.2.1 950 = .ok (.iconst 3, 1) := by decide +kernel
theorem dX_law_951 : decode mX_law.2.1 951 = .ok (.iadd, 1) := by decide +kernel
theorem dX_law_952 : decode mX_law.2.1 952 = .ok (.iaload, 1) := by decide +kernel
theorem dX_law_953 : decode mX_law.2.1 953 = .ok (.invokevirtual 110, 3) := by decide +kernel
theorem dX_law_956 : decode mX_law.2.1 956 = .ok (.pop2, 1) := by decide +kernel
theorem dX_law_957 : decode mX_law.2.1 957 = .ok (.goto 194, 3) := by decide +kernel
theorem dX_law_960 : decode mX_law.2.1 960 = .ok (.aload_n 1, 1) := by decide +kernel
theorem dX_law_961 : decode mX_law.2.1 961 = .ok (.aload_n 0, 1) := by decide +kernel
theorem dX_law_962 : decode mX_law.2.1 962 = .ok (.iload_n 3, 1) := by decide +kernel
theorem dX_law_963 : decode mX_law.2.1 963 = .ok (.iconst 1, 1) := by decide +kernel
theorem dX_law_964 : decode mX_law.2.1 964 = .ok (.iadd, 1) := by decide +kernel
theorem dX_law_965 : decode mX_law.2.1 965 = .ok (.iaload, 1) := by decide +kernel
theorem dX_law_966 : decode mX_law.2.1 966 = .ok (.aload_n 0, 1) := by decide +kernel
theorem dX_law_967 : decode mX_law.2.1 967 = .ok (.iload_n 3, 1) := by decide +kernel
theorem dX_law_968 : decode mX_law.2.1 968 = .ok (.iconst 2, 1) := by decide +kernel
theorem dX_law_969 : decode mX_law.2.1 969 = .ok (.iadd, 1) := by decide +kernel
theorem dX_law_970 : decode mX_law.2.1 970 = .ok (.iaload, 1) := by decide +kernel
theorem dX_law_971 : decode mX_law.2.1 971 = .ok (.aload_n 0, 1) := by decide +kernel
theorem dX_law_972 : decode mX_law.2.1 972 = .ok (.iload_n 3, 1) := by decide +kernel
theorem dX_law_973 : decode mX_law.2.1 973 = .ok (.iconst 3, 1) := by decide +kernel
theorem dX_law_974 : decode mX_law.2.1 974 = .ok (.iadd, 1) := by decide +kernel
theorem dX_law_975 : decode mX_law.2.1 975 = .ok (.iaload, 1) := by decide +kernel
theorem dX_law_976 : decode mX_law.2.1 976 = .ok (.aload_n 0, 1) := by decide +kernel
theorem dX_law_977 : decode mX_law.2.1 977 = .ok (.iload_n 3, 1) := by decide +kernel
theorem dX_law_978 : decode mX_law.2.1 978 = .ok (.iconst 4, 1) := by decide +kernel
theorem dX_law_979 : decode mX_law.2.1 979 = .ok (.iadd, 1) := by decide +kernel
theorem dX_law_980 : decode mX_law.2.1 980 = .ok (.iaload, 1) := by decide +kernel
theorem dX_law_981 : decode mX_law.2.1 981 = .ok (.aload_n 0, 1) := by decide +kernel
theorem dX_law_982 : decode mX_law.2.1 982 = .ok (.iload_n 3, 1) := by decide +kernel
theorem dX_law_983 : decode mX_law.2.1 983 = .ok (.iconst 5, 1) := by decide +kernel
theorem dX_law_984 : decode mX_law.2.1 984 = .ok (.iadd, 1) := by decide +kernel
theorem dX_law_985 : decode mX_law.2.1 985 = .ok (.iaload, 1) := by decide +kernel
theorem dX_law_986 : decode mX_law.2.1 986 = .ok (.invokevirtual 111, 3) := by decide +kernel
theorem dX_law_989 : decode mX_law.2.1 989 = .ok (.pop, 1) := by decide +kernel
theorem dX_law_990 : decode mX_law.2.1 990 = .ok (.aload_n 2, 1) := by decide +kernel
theorem dX_law_991 : decode mX_law.2.1 991 = .ok (.aload_n 0, 1) := by decide +kernel
theorem dX_law_992 : decode mX_law.2.1 992 = .ok (.iload_n 3, 1) := by decide +kernel
theorem dX_law_993 : decode mX_law.2.1 993 = .ok (.iconst 1, 1) := by decide +kernel
theorem dX_law_994 : decode mX_law.2.1 994 = .ok (.iadd, 1) := by decide +kernel
theorem dX_law_995 : decode mX_law.2.1 995 = .ok (.iaload, 1) := by decide +kernel
theorem dX_law_996 : decode mX_law.2.1 996 = .ok (.aload_n 0, 1) := by decide +kernel
theorem dX_law_997 : decode mX_law.2.1 997 = .ok (.iload_n 3, 1) := by decide +kernel
theorem dX_law_998 : decode mX_law.2.1 998 = .ok (.iconst 2, 1) := by decide +kernel
theorem dX_law_999 : decode mX_law.2.1 999 = .ok (.iadd, 1) := by decide +kernel
theorem dX_law_1000 : decode mX_law.2.1 1000 = .ok (.iaload, 1) := by decide +kernel
theorem dX_law_1001 : decode mX_law.2.1 1001 = .ok (.aload_n 0, 1) := by decide +kernel
theorem dX_law_1002 : decode mX_law.2.1 1002 = .ok (.iload_n 3, 1) := by decide +kernel
theorem dX_law_1003 : decode mX_law.2.1 1003 = .ok (.iconst 3, 1) := by decide +kernel
theorem dX_law_1004 : decode mX_law.2.1 1004 = .ok (.iadd, 1) := by decide +kernel
theorem dX_law_1005 : decode mX_law.2.1 1005 = .ok (.iaload, 1) := by decide +kernel
theorem dX_law_1006 : decode mX_law.2.1 1006 = .ok (.aload_n 0, 1) := by decide +kernel
theorem dX_law_1007 : decode mX_law.2.1 1007 = .ok (.iload_n 3, 1) := by decide +kernel
theorem dX_law_1008 : decode mX_law.2.1 1008 = .ok (.iconst 4, 1) := by decide +kernel
theorem dX_law_1009 : decode mX_law.2.1 1009 = .ok (.iadd, 1) := by decide +kernel
theorem dX_law_1010 : decode mX_law.2.1 1010 = .ok (.iaload, 1) := by decide +kernel
theorem dX_law_1011 : decode mX_law.2.1 1011 = .ok (.aload_n 0, 1) := by decide +kernel
theorem dX_law_1012 : decode mX_law.2.1 1012 = .ok (.iload_n 3, 1) := by decide +kernel
theorem dX_law_1013 : decode mX_law.2.1 1013 = .ok (.iconst 5, 1) := by decide +kernel
theorem dX_law_1014 : decode mX_law.2.1 1014 = .ok (.iadd, 1) := by decide +kernel
theorem dX_law_1015 : decode mX_law.2.1 1015 = .ok (.iaload, 1) := by decide +kernel
theorem dX_law_1016 : decode mX_law.2.1 1016 = .ok (.invokevirtual 114, 3) := by decide +kernel
theorem dX_law_1019 : decode mX_law.2.1 1019 = .ok (.pop, 1) := by decide +kernel
theorem dX_law_1020 : decode mX_law.2.1 1020 = .ok (.goto 131, 3) := by decide +kernel
theorem dX_law_1023 : decode mX_law.2.1 1023 = .ok (.aload_n 1, 1) := by decide +kernel
theorem dX_law_1024 : decode mX_law.2.1 1024 = .ok (.aload_n 0, 1) := by decide +kernel
theorem dX_law_1025 : decode mX_law.2.1 1025 = .ok (.iload_n 3, 1) := by decide +kernel
theorem dX_law_1026 : decode mX_law.2.1 1026 = .ok (.iconst 1, 1) := by decide +kernel
theorem dX_law_1027 : decode mX_law.2.1 1027 = .ok (.iadd, 1) := by decide +kernel
theorem dX_law_1028 : decode mX_law.2.1 1028 = .ok (.iaload, 1) := by decide +kernel
theorem dX_law_1029 : decode mX_law.2.1 1029 = .ok (.invokevirtual 115, 3) := by decide +kernel
theorem dX_law_1032 : decode mX_law.2.1 1032 = .ok (.pop, 1) := by decide +kernel
theorem dX_law_1033 : decode mX_law.2.1 1033 = .ok (.aload_n 2, 1) := by decide +kernel
theorem dX_law_1034 : decode mX_law.2.1 1034 = .ok (.aload_n 0, 1) := by decide +kernel
theorem dX_law_1035 : decode mX_law.2.1 1035 = .ok (.iload_n 3, 1) := by decide +kernel
theorem dX_law_1036 : decode mX_law.2.1 1036 = .ok (.iconst 1, 1) := by decide +kernel
theorem dX_law_1037 : decode mX_law.2.1 1037 = .ok (.iadd, 1) := by decide +kernel
theorem dX_law_1038 : decode mX_law.2.1 1038 = .ok (.iaload, 1) := by decide +kernel
theorem dX_law_1039 : decode mX_law.2.1 1039 = .ok (.invokevirtual 118, 3) := by decide +kernel
theorem dX_law_1042 : decode mX_law.2.1 1042 = .ok (.pop, 1) := by decide +kernel
theorem dX_law_1043 : decode mX_law.2.1 1043 = .ok (.goto 108, 3) := by decide +kernel
theorem dX_law_1046 : decode mX_law.2.1 1046 = .ok (.aload_n 1, 1) := by decide +kernel
theorem dX_law_1047 : decode mX_law.2.1 1047 = .ok (.aload_n 0, 1) := by decide +kernel
theorem dX_law_1048 : decode mX_law.2.1 1048 = .ok (.iload_n 3, 1) := by decide +kernel
theorem dX_law_1049 : decode mX_law.2.1 1049 = .ok (.iconst 1, 1) := by decide +kernel
theorem dX_law_1050 : decode mX_law.2.1 1050 = .ok (.iadd, 1) := by decide +kernel
theorem dX_law_1051 : decode mX_law.2.1 1051 = .ok (.iaload, 1) := by decide +kernel
theorem dX_law_1052 : decode mX_law.2.1 1052 = .ok (.invokevirtual 119, 3) := by decide +kernel
theorem dX_law_1055 : decode mX_law.2.1 1055 = .ok (.pop, 1) := by decide +kernel
theorem dX_law_1056 : decode mX_law.2.1 1056 = .ok (.aload_n 2, 1) := by decide +kernel
theorem dX_law_1057 : decode mX_law.2.1 1057 = .ok (.aload_n 0, 1) := by decide +kernel
theorem dX_law_1058 : decode mX_law.2.1 1058 = .ok (.iload_n 3, 1) := by decide +kernel
theorem dX_law_1059 : decode mX_law.2.1 1059 = .ok (.iconst 1, 1) := by decide +kernel
theorem dX_law_1060 : decode mX_law.2.1 1060 = .ok (.iadd, 1) := by decide +kernel
theorem dX_law_1061 : decode mX_law.2.1 1061 = .ok (.iaload, 1) := by decide +kernel
theorem dX_law_1062 : decode mX_law.2.1 1062 = .ok (.invokevirtual 122, 3) := by decide +kernel
theorem dX_law_1065 : decode mX_law.2.1 1065 = .ok (.pop, 1) := by decide +kernel
theorem dX_law_1066 : decode mX_law.2.1 1066 = .ok (.goto 85, 3) := by decide +kernel
theorem dX_law_1069 : decode mX_law.2.1 1069 = .ok (.aload_n 1, 1) := by decide +kernel
theorem dX_law_1070 : decode mX_law.2.1 1070 = .ok (.aload_n 0, 1) := by decide +kernel
theorem dX_law_1071 : decode mX_law.2.1 1071 = .ok (.iload_n 3, 1) := by decide +kernel
theorem dX_law_1072 : decode mX_law.2.1 1072 = .ok (.iconst 1, 1) := by decide +kernel
theorem dX_law_1073 : decode mX_law.2.1 1073 = .ok (.iadd, 1) := by decide +kernel
theorem dX_law_1074 : decode mX_law.2.1 1074 = .ok (.iaload, 1) := by decide +kernel
theorem dX_law_1075 : decode mX_law.2.1 1075 = .ok (.aload_n 0, 1) := by decide +kernel
theorem dX_law_1076 : decode mX_law.2.1 1076 = .ok (.iload_n 3, 1) := by decide +kernel
theorem dX_law_1077 : decode mX_law.2.1 1077 = .ok (.iconst 2, 1) := by decide +kernel
theorem dX_law_1078 : decode mX_law.2.1 1078 = .ok (.iadd, 1) := by decide +kernel
theorem dX_law_1079 : decode mX_law.2.1 1079 = .ok (.iaload, 1) := by decide +kernel
theorem dX_law_1080 : decode mX_law.2.1 1080 = .ok (.invokevirtual 123, 3) := by decide +kernel
theorem dX_law_1083 : decode mX_law.2.1 1083 = .ok (.pop, 1) := by decide +kernel
theorem dX_law_1084 : decode mX_law.2.1 1084 = .ok (.aload_n 2, 1) := by decide +kernel
theorem dX_law_1085 : decode mX_law.2.1 1085 = .ok (.aload_n 0, 1) := by decide +kernel
theorem dX_law_1086 : decode mX_law.2.1 1086 = .ok (.iload_n 3, 1) := by decide +kernel
theorem dX_law_1087 : decode mX_law.2.1 1087 = .ok (.iconst 1, 1) := by decide +kernel
theorem dX_law_1088 : decode mX_law.2.1 1088 = .ok (.iadd, 1) := by decide +kernel
theorem dX_law_1089 : decode mX_law.2.1 1089 = .ok (.iaload, 1) := by decide +kernel
theorem dX_law_1090 : decode mX_law.2.1 1090 = .ok (.aload_n 0, 1) := by decide +kernel
theorem dX_law_1091 : decode mX_law.2.1 1091 = .ok (.iload_n 3, 1) := by decide +kernel
theorem dX_law_1092 : decode mX_law.2.1 1092 = .ok (.iconst 2, 1) := by decide +kernel
theorem dX_law_1093 : decode mX_law.2.1 1093 = .ok (.iadd, 1) := by decide +kernel
theorem dX_law_1094 : decode mX_law.2.1 1094 = .ok (.iaload, 1) := by decide +kernel
theorem dX_law_1095 : decode mX_law.2.1 1095 = .ok (.invokevirtual 126, 3) := by decide +kernel
theorem dX_law_1098 : decode mX_law.2.1 1098 = .ok (.pop, 1) := by decide +kernel
theorem dX_law_1099 : decode mX_law.2.1 1099 = .ok (.goto 52, 3) := by decide +kernel
theorem dX_law_1102 : decode mX_law.2.1 1102 = .ok (.aload_n 1, 1) := by decide +kernel
theorem dX_law_1103 : decode mX_law.2.1 1103 = .ok (.invokevirtual 127, 3) := by decide +kernel
theorem dX_law_1106 : decode mX_law.2.1 1106 = .ok (.pop, 1) := by decide +kernel
theorem dX_law_1107 : decode mX_law.2.1 1107 = .ok (.aload_n 2, 1) := by decide +kernel
theorem dX_law_1108 : decode mX_law.2.1 1108 = .ok (.invokevirtual 130, 3) := by decide +kernel
theorem dX_law_1111 : decode mX_law.2.1 1111 = .ok (.pop, 1) := by decide +kernel
theorem dX_law_1112 : decode mX_law.2.1 1112 = .ok (.goto 39, 3) := by decide +kernel
theorem dX_law_1115 : decode mX_law.2.1 1115 = .ok (.aload_n 1, 1) := by decide +kernel
theorem dX_law_1116 : decode mX_law.2.1 1116 = .ok (.invokevirtual 131, 3) := by decide +kernel
theorem dX_law_1119 : decode mX_law.2.1 1119 = .ok (.pop, 1) := by decide +kernel
theorem dX_law_1120 : decode mX_law.2.1 1120 = .ok (.aload_n 2, 1) := by decide +kernel
theorem dX_law_1121 : decode mX_law.2.1 1121 = .ok (.invokevirtual 134, 3) := by decide +kernel
theorem dX_law_1124 : decode mX_law.2.1 1124 = .ok (.pop, 1) := by decide +kernel
theorem dX_law_1125 : decode mX_law.2.1 1125 = .ok (.goto 26, 3) := by decide +kernel
theorem dX_law_1128 : decode mX_law.2.1 1128 = .ok (.aload_n 1, 1) := by decide +kernel
theorem dX_law_1129 : decode mX_law.2.1 1129 = .ok (.aload_n 0, 1) := by decide +kernel
theorem dX_law_1130 : decode mX_law.2.1 1130 = .ok (.iload_n 3, 1) := by decide +kernel
theorem dX_law_1131 : decode mX_law.2.1 1131 = .ok (.iconst 1, 1) := by decide +kernel
theorem dX_law_1132 : decode mX_law.2.1 1132 = .ok (.iadd, 1) := by decide +kernel
theorem dX_law_1133 : decode mX_law.2.1 1133 = .ok (.iaload, 1) := by decide +kernel
theorem dX_law_1134 : decode mX_law.2.1 1134 = .ok (.invokevirtual 135, 3) := by decide +kernel
theorem dX_law_1137 : decode mX_law.2.1 1137 = .ok (.aload_n 2, 1) := by decide +kernel
theorem dX_law_1138 : decode mX_law.2.1 1138 = .ok (.aload_n 0, 1) := by decide +kernel
theorem dX_law_1139 : decode mX_law.2.1 1139 = .ok (.iload_n 3, 1) := by decide +kernel
theorem dX_law_1140 : decode mX_law.2.1 1140 = .ok (.iconst 1, 1) := by decide +kernel
theorem dX_law_1141 : decode mX_law.2.1 1141 = .ok (.iadd, 1) := by decide +kernel
theorem dX_law_1142 : decode mX_law.2.1 1142 = .ok (.iaload, 1) := by decide +kernel
theorem dX_law_1143 : decode mX_law.2.1 1143 = .ok (.invokevirtual 138, 3) := by decide +kernel
theorem dX_law_1146 : decode mX_law.2.1 1146 = .ok (.if_icmp .eq 5, 3) := by decide +kernel
theorem dX_law_1149 : decode mX_law.2.1 1149 = .ok (.iconst 0, 1) := by decide +kernel
theorem dX_law_1150 : decode mX_law.2.1 1150 = .ok (.ireturn, 1) := by decide +kernel
theorem dX_law_1151 : decode mX_law.2.1 1151 = .ok (.iinc 3 7, 3) := by decide +kernel
theorem dX_law_1154 : decode mX_law.2.1 1154 = .ok (.goto (-1136), 3) := by decide +kernel
theorem dX_law_1157 : decode mX_law.2.1 1157 = .ok (.iconst 1, 1) := by decide +kernel
theorem dX_law_1158 : decode mX_law.2.1 1158 = .ok (.ireturn, 1) := by decide +kernel
set_option maxRecDepth 20000 in
set_option maxHeartbeats 4000000 in
theorem law_16 {L : Nat} {xs : Nat → Int32} (hL : L ≤ 448) (w : zW) (hR : zRel w w) : zM mX_law (lw_W L xs) 16 [(0, zR 52), (1, zR 0), (2, zR 33)] [] w := by
  refine r_iconst dX_law_16 ?_
  refine r_istore_n (ls' := [(3, zI 0), (0, zR 52), (1, zR 0), (2, zR 33)]) 3 dX_law_17 rfl (by decide) rfl ?_
  have L_18 : ∀ (n_18 : Nat) (i : Int) (wl : zW) (hi : 0 ≤ i) (hi1 : i ≤ (L : Int)) (hR : zRel wl wl), (L : Int) - i < (n_18 : Int) → zM mX_law (lw_W L xs) 18 [(3, zI i), (0, zR 52), (1, zR 0), (2, zR 33)] [] wl := by
    intro n_18
    induction n_18 with
    | zero => intro i wl hi hi1 hR hm_18; exfalso; omega
    | succ n_18 ih_18 =>
      intro i wl hi hi1 hR hm_18
      refine r_ok (fun hOl => ?_)
      refine r_iload_n 3 0 dX_law_18 rfl rfl ?_
      refine r_aload_n 0 1 dX_law_19 rfl rfl ?_
      refine r_slen dX_law_20 ?_
      refine r_bipush dX_law_21 (by decide) ?_
      refine r_isub dX_law_23 ?_
      refine r_ic_gt 1157 dX_law_24 (by decide) ⟨by omega, by omega⟩ ⟨by omega, by omega⟩ (fun c_24 => ?_) (fun c_24 => ?_)
      · refine r_iconst dX_law_1157 ?_
        exact r_lawret dX_law_1158
      · have hRb := hR
        have hx0 := zsc_in xs (i)
        have hx1 := zsc_in xs (i + 1)
        have hx2 := zsc_in xs (i + 2)
        have hx3 := zsc_in xs (i + 3)
        have hx4 := zsc_in xs (i + 4)
        have hx5 := zsc_in xs (i + 5)
        have hx6 := zsc_in xs (i + 6)
        refine r_aload_n 0 1 dX_law_27 rfl rfl ?_
        refine r_iload_n 3 0 dX_law_28 rfl rfl ?_
        refine r_sld dX_law_29 (by omega) (by omega) (by omega) ?_
        refine r_bipush dX_law_30 (by decide) ?_
        refine r_iand dX_law_32 ?_
        have hx9 : zin (ziand (zsc xs i) 31) := zto_in _
        rcases (by omega : ((ziand (zsc xs i) 31) = 0) ∨ ((ziand (zsc xs i) 31) = 1) ∨ ((ziand (zsc xs i) 31) = 2) ∨ ((ziand (zsc xs i) 31) = 3) ∨ ((ziand (zsc xs i) 31) = 4) ∨ ((ziand (zsc xs i) 31) = 5) ∨ ((ziand (zsc xs i) 31) = 6) ∨ ((ziand (zsc xs i) 31) = 7) ∨ ((ziand (zsc xs i) 31) = 8) ∨ ((ziand (zsc xs i) 31) = 9) ∨ ((ziand (zsc xs i) 31) = 10) ∨ ((ziand (zsc xs i) 31) = 11) ∨ ((ziand (zsc xs i) 31) = 12) ∨ ((ziand (zsc xs i) 31) = 13) ∨ ((ziand (zsc xs i) 31) = 14) ∨ ((ziand (zsc xs i) 31) = 15) ∨ ((ziand (zsc xs i) 31) = 16) ∨ ((ziand (zsc xs i) 31) = 17) ∨ ((ziand (zsc xs i) 31) = 18) ∨ ((ziand (zsc xs i) 31) = 19) ∨ ((ziand (zsc xs i) 31) = 20) ∨ ((ziand (zsc xs i) 31) = 21) ∨ ((ziand (zsc xs i) 31) = 22) ∨ ((ziand (zsc xs i) 31) = 23) ∨ ((ziand (zsc xs i) 31) = 24) ∨ ((ziand (zsc xs i) 31) = 25) ∨ ((ziand (zsc xs i) 31) = 26) ∨ ((ziand (zsc xs i) 31) = 27) ∨ ((ziand (zsc xs i) 31) = 28) ∨ ((ziand (zsc xs i) 31) < 0 ∨ 28 < (ziand (zsc xs i) 31))) with c_33 | c_33 | c_33 | c_33 | c_33 | c_33 | c_33 | c_33 | c_33 | c_33 | c_33 | c_33 | c_33 | c_33 | c_33 | c_33 | c_33 | c_33 | c_33 | c_33 | c_33 | c_33 | c_33 | c_33 | c_33 | c_33 | c_33 | c_33 | c_33 | c_33 | c_33
        · refine r_tableIn 164 dX_law_33 ⟨by omega, by omega⟩ (by omega) (by omega) (by rw [c_33] <;> rfl) (by decide) ?_
          refine r_aload_n 1 2 dX_law_164 rfl rfl ?_
          refine r_aload_n 0 1 dX_law_165 rfl rfl ?_
          refine r_iload_n 3 0 dX_law_166 rfl rfl ?_
          refine r_iconst dX_law_167 ?_
          refine r_iadd dX_law_168 ?_
          refine r_sld dX_law_169 (by omega) (by omega) (by omega) ?_
          refine r_aload_n 0 1 dX_law_170 rfl rfl ?_
          refine r_iload_n 3 0 dX_law_171 rfl rfl ?_
          refine r_iconst dX_law_172 ?_
          refine r_iadd dX_law_173 ?_
          refine r_sld dX_law_174 (by omega) (by omega) (by omega) ?_
          refine r_aload_n 0 1 dX_law_175 rfl rfl ?_
          refine r_iload_n 3 0 dX_law_176 rfl rfl ?_
          refine r_iconst dX_law_177 ?_
          refine r_iadd dX_law_178 ?_
          refine r_sld dX_law_179 (by omega) (by omega) (by omega) ?_
          refine r_aload_n 0 1 dX_law_180 rfl rfl ?_
          refine r_iload_n 3 0 dX_law_181 rfl rfl ?_
          refine r_iconst dX_law_182 ?_
          refine r_iadd dX_law_183 ?_
          refine r_sld dX_law_184 (by omega) (by omega) (by omega) ?_
          refine r_cVI (cC_hotel wl (zsc xs (i + 1)) (zsc xs (i + 2)) (zsc xs (i + 3)) (zsc xs (i + 4)) (by omega) (by omega) (by omega) (by omega)) qC_hotel rfl kw_212 rfl rfl dX_law_185 (st0 := [zI (zsc xs (i + 4)), zI (zsc xs (i + 3)), zI (zsc xs (i + 2)), zI (zsc xs (i + 1)), zR 0]) (st := []) rfl ⟨Nat.le_of_ble_eq_true rfl, Nat.le_of_ble_eq_true rfl⟩ ⟨Nat.le_of_ble_eq_true rfl, Nat.le_of_ble_eq_true rfl⟩ (Nat.le_of_ble_eq_true rfl) (fun a_185 w_185 h_185 ok_185 => ?_)
          refine r_pop dX_law_188 ?_
          refine r_aload_n 2 3 dX_law_189 rfl rfl ?_
          refine r_aload_n 0 1 dX_law_190 rfl rfl ?_
          refine r_iload_n 3 0 dX_law_191 rfl rfl ?_
          refine r_iconst dX_law_192 ?_
          refine r_iadd dX_law_193 ?_
          refine r_sld dX_law_194 (by omega) (by omega) (by omega) ?_
          refine r_aload_n 0 1 dX_law_195 rfl rfl ?_
          refine r_iload_n 3 0 dX_law_196 rfl rfl ?_
          refine r_iconst dX_law_197 ?_
          refine r_iadd dX_law_198 ?_
          refine r_sld dX_law_199 (by omega) (by omega) (by omega) ?_
          refine r_aload_n 0 1 dX_law_200 rfl rfl ?_
          refine r_iload_n 3 0 dX_law_201 rfl rfl ?_
          refine r_iconst dX_law_202 ?_
          refine r_iadd dX_law_203 ?_
          refine r_sld dX_law_204 (by omega) (by omega) (by omega) ?_
          refine r_aload_n 0 1 dX_law_205 rfl rfl ?_
          refine r_iload_n 3 0 dX_law_206 rfl rfl ?_
          refine r_iconst dX_law_207 ?_
          refine r_iadd dX_law_208 ?_
          refine r_sld dX_law_209 (by omega) (by omega) (by omega) ?_
          refine r_cVI (cM_hotel w_185 (zsc xs (i + 1)) (zsc xs (i + 2)) (zsc xs (i + 3)) (zsc xs (i + 4)) (by omega) (by omega) (by omega) (by omega)) qM_hotel rfl kw_620 rfl rfl dX_law_210 (st0 := [zI (zsc xs (i + 4)), zI (zsc xs (i + 3)), zI (zsc xs (i + 2)), zI (zsc xs (i + 1)), zR 33]) (st := []) rfl ⟨Nat.le_of_ble_eq_true rfl, Nat.le_of_ble_eq_true rfl⟩ ⟨Nat.le_of_ble_eq_true rfl, Nat.le_of_ble_eq_true rfl⟩ (Nat.le_of_ble_eq_true rfl) (fun a_210 w_210 h_210 ok_210 => ?_)
          have hRb : zRel w_210 w_210 := k_hotel hR hOl ok_185 h_185 h_210
          refine r_pop dX_law_213 ?_
          refine r_goto 1151 dX_law_214 (by decide) ?_
          refine r_iinc (ls' := [(3, zI (i + 7)), (0, zR 52), (1, zR 0), (2, zR 33)]) 3 0 dX_law_1151 rfl (by decide) rfl ?_
          refine r_goto 18 dX_law_1154 (by decide) ?_
          exact ih_18 (i + 7) w_210 (by omega) (by omega) hRb (by omega)
        · refine r_tableIn 217 dX_law_33 ⟨by omega, by omega⟩ (by omega) (by omega) (by rw [c_33] <;> rfl) (by decide) ?_
          refine r_aload_n 1 2 dX_law_217 rfl rfl ?_
          refine r_aload_n 0 1 dX_law_218 rfl rfl ?_
          refine r_iload_n 3 0 dX_law_219 rfl rfl ?_
          refine r_iconst dX_law_220 ?_
          refine r_iadd dX_law_221 ?_
          refine r_sld dX_law_222 (by omega) (by omega) (by omega) ?_
          refine r_aload_n 0 1 dX_law_223 rfl rfl ?_
          refine r_iload_n 3 0 dX_law_224 rfl rfl ?_
          refine r_iconst dX_law_225 ?_
          refine r_iadd dX_law_226 ?_
          refine r_sld dX_law_227 (by omega) (by omega) (by omega) ?_
          refine r_cVI (cC_ofGuest wl (zsc xs (i + 1)) (zsc xs (i + 2)) (by omega) (by omega)) qC_ofGuest rfl kw_262 rfl rfl dX_law_228 (st0 := [zI (zsc xs (i + 2)), zI (zsc xs (i + 1)), zR 0]) (st := []) rfl ⟨Nat.le_of_ble_eq_true rfl, Nat.le_of_ble_eq_true rfl⟩ ⟨Nat.le_of_ble_eq_true rfl, Nat.le_of_ble_eq_true rfl⟩ (Nat.le_of_ble_eq_true rfl) (fun a_228 w_228 h_228 ok_228 => ?_)
          obtain ⟨rfl, h_228⟩ := h_228
          refine r_pop dX_law_231 ?_
          refine r_aload_n 2 3 dX_law_232 rfl rfl ?_
          refine r_aload_n 0 1 dX_law_233 rfl rfl ?_
          refine r_iload_n 3 0 dX_law_234 rfl rfl ?_
          refine r_iconst dX_law_235 ?_
          refine r_iadd dX_law_236 ?_
          refine r_sld dX_law_237 (by omega) (by omega) (by omega) ?_
          refine r_aload_n 0 1 dX_law_238 rfl rfl ?_
          refine r_iload_n 3 0 dX_law_239 rfl rfl ?_
          refine r_iconst dX_law_240 ?_
          refine r_iadd dX_law_241 ?_
          refine r_sld dX_law_242 (by omega) (by omega) (by omega) ?_
          refine r_cVI (cM_ofGuest wl (zsc xs (i + 1)) (zsc xs (i + 2)) (by omega) (by omega)) qM_ofGuest rfl kw_667 rfl rfl dX_law_243 (st0 := [zI (zsc xs (i + 2)), zI (zsc xs (i + 1)), zR 33]) (st := []) rfl ⟨Nat.le_of_ble_eq_true rfl, Nat.le_of_ble_eq_true rfl⟩ ⟨Nat.le_of_ble_eq_true rfl, Nat.le_of_ble_eq_true rfl⟩ (Nat.le_of_ble_eq_true rfl) (fun a_243 w_243 h_243 ok_243 => ?_)
          obtain ⟨rfl, h_243⟩ := h_243
          have hRb : zRel wl wl := k_ofGuest hR hOl ok_228 ⟨rfl, h_228⟩ ⟨rfl, h_243⟩
          refine r_pop dX_law_246 ?_
          refine r_goto 1151 dX_law_247 (by decide) ?_
          refine r_iinc (ls' := [(3, zI (i + 7)), (0, zR 52), (1, zR 0), (2, zR 33)]) 3 0 dX_law_1151 rfl (by decide) rfl ?_
          refine r_goto 18 dX_law_1154 (by decide) ?_
          exact ih_18 (i + 7) wl (by omega) (by omega) hRb (by omega)
        · refine r_tableIn 250 dX_law_33 ⟨by omega, by omega⟩ (by omega) (by omega) (by rw [c_33] <;> rfl) (by decide) ?_
          refine r_aload_n 1 2 dX_law_250 rfl rfl ?_
          refine r_aload_n 0 1 dX_law_251 rfl rfl ?_
          refine r_iload_n 3 0 dX_law_252 rfl rfl ?_
          refine r_iconst dX_law_253 ?_
          refine r_iadd dX_law_254 ?_
          refine r_sld dX_law_255 (by omega) (by omega) (by omega) ?_
          refine r_aload_n 0 1 dX_law_256 rfl rfl ?_
          refine r_iload_n 3 0 dX_law_257 rfl rfl ?_
          refine r_iconst dX_law_258 ?_
          refine r_iadd dX_law_259 ?_
          refine r_sld dX_law_260 (by omega) (by omega) (by omega) ?_
          refine r_cVI (cC_ofDoing wl (zsc xs (i + 1)) (zsc xs (i + 2)) (by omega) (by omega)) qC_ofDoing rfl kw_270 rfl rfl dX_law_261 (st0 := [zI (zsc xs (i + 2)), zI (zsc xs (i + 1)), zR 0]) (st := []) rfl ⟨Nat.le_of_ble_eq_true rfl, Nat.le_of_ble_eq_true rfl⟩ ⟨Nat.le_of_ble_eq_true rfl, Nat.le_of_ble_eq_true rfl⟩ (Nat.le_of_ble_eq_true rfl) (fun a_261 w_261 h_261 ok_261 => ?_)
          obtain ⟨rfl, h_261⟩ := h_261
          refine r_pop dX_law_264 ?_
          refine r_aload_n 2 3 dX_law_265 rfl rfl ?_
          refine r_aload_n 0 1 dX_law_266 rfl rfl ?_
          refine r_iload_n 3 0 dX_law_267 rfl rfl ?_
          refine r_iconst dX_law_268 ?_
          refine r_iadd dX_law_269 ?_
          refine r_sld dX_law_270 (by omega) (by omega) (by omega) ?_
          refine r_aload_n 0 1 dX_law_271 rfl rfl ?_
          refine r_iload_n 3 0 dX_law_272 rfl rfl ?_
          refine r_iconst dX_law_273 ?_
          refine r_iadd dX_law_274 ?_
          refine r_sld dX_law_275 (by omega) (by omega) (by omega) ?_
          refine r_cVI (cM_ofDoing wl (zsc xs (i + 1)) (zsc xs (i + 2)) (by omega) (by omega)) qM_ofDoing rfl kw_675 rfl rfl dX_law_276 (st0 := [zI (zsc xs (i + 2)), zI (zsc xs (i + 1)), zR 33]) (st := []) rfl ⟨Nat.le_of_ble_eq_true rfl, Nat.le_of_ble_eq_true rfl⟩ ⟨Nat.le_of_ble_eq_true rfl, Nat.le_of_ble_eq_true rfl⟩ (Nat.le_of_ble_eq_true rfl) (fun a_276 w_276 h_276 ok_276 => ?_)
          obtain ⟨rfl, h_276⟩ := h_276
          have hRb : zRel wl wl := k_ofDoing hR hOl ok_261 ⟨rfl, h_261⟩ ⟨rfl, h_276⟩
          refine r_pop dX_law_279 ?_
          refine r_goto 1151 dX_law_280 (by decide) ?_
          refine r_iinc (ls' := [(3, zI (i + 7)), (0, zR 52), (1, zR 0), (2, zR 33)]) 3 0 dX_law_1151 rfl (by decide) rfl ?_
          refine r_goto 18 dX_law_1154 (by decide) ?_
          exact ih_18 (i + 7) wl (by omega) (by omega) hRb (by omega)
        · refine r_tableIn 283 dX_law_33 ⟨by omega, by omega⟩ (by omega) (by omega) (by rw [c_33] <;> rfl) (by decide) ?_
          refine r_aload_n 1 2 dX_law_283 rfl rfl ?_
          refine r_aload_n 0 1 dX_law_284 rfl rfl ?_
          refine r_iload_n 3 0 dX_law_285 rfl rfl ?_
          refine r_iconst dX_law_286 ?_
          refine r_iadd dX_law_287 ?_
          refine r_sld dX_law_288 (by omega) (by omega) (by omega) ?_
          refine r_cVI (cC_strict wl (zsc xs (i + 1)) (by omega)) qC_strict rfl kw_290 rfl rfl dX_law_289 (st0 := [zI (zsc xs (i + 1)), zR 0]) (st := []) rfl ⟨Nat.le_of_ble_eq_true rfl, Nat.le_of_ble_eq_true rfl⟩ ⟨Nat.le_of_ble_eq_true rfl, Nat.le_of_ble_eq_true rfl⟩ (Nat.le_of_ble_eq_true rfl) (fun a_289 w_289 h_289 ok_289 => ?_)
          refine r_pop dX_law_292 ?_
          refine r_aload_n 2 3 dX_law_293 rfl rfl ?_
          refine r_aload_n 0 1 dX_law_294 rfl rfl ?_
          refine r_iload_n 3 0 dX_law_295 rfl rfl ?_
          refine r_iconst dX_law_296 ?_
          refine r_iadd dX_law_297 ?_
          refine r_sld dX_law_298 (by omega) (by omega) (by omega) ?_
          refine r_cVI (cM_strict w_289 (zsc xs (i + 1)) (by omega)) qM_strict rfl kw_695 rfl rfl dX_law_299 (st0 := [zI (zsc xs (i + 1)), zR 33]) (st := []) rfl ⟨Nat.le_of_ble_eq_true rfl, Nat.le_of_ble_eq_true rfl⟩ ⟨Nat.le_of_ble_eq_true rfl, Nat.le_of_ble_eq_true rfl⟩ (Nat.le_of_ble_eq_true rfl) (fun a_299 w_299 h_299 ok_299 => ?_)
          have hRb : zRel w_299 w_299 := k_strict hR hOl ok_289 h_289 h_299
          refine r_pop dX_law_302 ?_
          refine r_goto 1151 dX_law_303 (by decide) ?_
          refine r_iinc (ls' := [(3, zI (i + 7)), (0, zR 52), (1, zR 0), (2, zR 33)]) 3 0 dX_law_1151 rfl (by decide) rfl ?_
          refine r_goto 18 dX_law_1154 (by decide) ?_
          exact ih_18 (i + 7) w_299 (by omega) (by omega) hRb (by omega)
        · refine r_tableIn 306 dX_law_33 ⟨by omega, by omega⟩ (by omega) (by omega) (by rw [c_33] <;> rfl) (by decide) ?_
          refine r_aload_n 1 2 dX_law_306 rfl rfl ?_
          refine r_aload_n 0 1 dX_law_307 rfl rfl ?_
          refine r_iload_n 3 0 dX_law_308 rfl rfl ?_
          refine r_iconst dX_law_309 ?_
          refine r_iadd dX_law_310 ?_
          refine r_sld dX_law_311 (by omega) (by omega) (by omega) ?_
          refine r_cVI (cC_stars wl (zsc xs (i + 1)) (by omega)) qC_stars rfl kw_298 rfl rfl dX_law_312 (st0 := [zI (zsc xs (i + 1)), zR 0]) (st := []) rfl ⟨Nat.le_of_ble_eq_true rfl, Nat.le_of_ble_eq_true rfl⟩ ⟨Nat.le_of_ble_eq_true rfl, Nat.le_of_ble_eq_true rfl⟩ (Nat.le_of_ble_eq_true rfl) (fun a_312 w_312 h_312 ok_312 => ?_)
          refine r_pop dX_law_315 ?_
          refine r_aload_n 2 3 dX_law_316 rfl rfl ?_
          refine r_aload_n 0 1 dX_law_317 rfl rfl ?_
          refine r_iload_n 3 0 dX_law_318 rfl rfl ?_
          refine r_iconst dX_law_319 ?_
          refine r_iadd dX_law_320 ?_
          refine r_sld dX_law_321 (by omega) (by omega) (by omega) ?_
          refine r_cVI (cM_stars w_312 (zsc xs (i + 1)) (by omega)) qM_stars rfl kw_700 rfl rfl dX_law_322 (st0 := [zI (zsc xs (i + 1)), zR 33]) (st := []) rfl ⟨Nat.le_of_ble_eq_true rfl, Nat.le_of_ble_eq_true rfl⟩ ⟨Nat.le_of_ble_eq_true rfl, Nat.le_of_ble_eq_true rfl⟩ (Nat.le_of_ble_eq_true rfl) (fun a_322 w_322 h_322 ok_322 => ?_)
          have hRb : zRel w_322 w_322 := k_stars hR hOl ok_312 h_312 h_322
          refine r_pop dX_law_325 ?_
          refine r_goto 1151 dX_law_326 (by decide) ?_
          refine r_iinc (ls' := [(3, zI (i + 7)), (0, zR 52), (1, zR 0), (2, zR 33)]) 3 0 dX_law_1151 rfl (by decide) rfl ?_
          refine r_goto 18 dX_law_1154 (by decide) ?_
          exact ih_18 (i + 7) w_322 (by omega) (by omega) hRb (by omega)
        · refine r_tableIn 329 dX_law_33 ⟨by omega, by omega⟩ (by omega) (by omega) (by rw [c_33] <;> rfl) (by decide) ?_
          refine r_aload_n 1 2 dX_law_329 rfl rfl ?_
          refine r_aload_n 0 1 dX_law_330 rfl rfl ?_
          refine r_iload_n 3 0 dX_law_331 rfl rfl ?_
          refine r_iconst dX_law_332 ?_
          refine r_iadd dX_law_333 ?_
          refine r_sld dX_law_334 (by omega) (by omega) (by omega) ?_
          refine r_aload_n 0 1 dX_law_335 rfl rfl ?_
          refine r_iload_n 3 0 dX_law_336 rfl rfl ?_
          refine r_iconst dX_law_337 ?_
          refine r_iadd dX_law_338 ?_
          refine r_sld dX_law_339 (by omega) (by omega) (by omega) ?_
          refine r_cVI (cC_pleased wl (zsc xs (i + 1)) (zsc xs (i + 2)) (by omega) (by omega)) qC_pleased rfl kw_305 rfl rfl dX_law_340 (st0 := [zI (zsc xs (i + 2)), zI (zsc xs (i + 1)), zR 0]) (st := []) rfl ⟨Nat.le_of_ble_eq_true rfl, Nat.le_of_ble_eq_true rfl⟩ ⟨Nat.le_of_ble_eq_true rfl, Nat.le_of_ble_eq_true rfl⟩ (Nat.le_of_ble_eq_true rfl) (fun a_340 w_340 h_340 ok_340 => ?_)
          obtain ⟨rfl, h_340⟩ := h_340
          refine r_pop dX_law_343 ?_
          refine r_aload_n 2 3 dX_law_344 rfl rfl ?_
          refine r_aload_n 0 1 dX_law_345 rfl rfl ?_
          refine r_iload_n 3 0 dX_law_346 rfl rfl ?_
          refine r_iconst dX_law_347 ?_
          refine r_iadd dX_law_348 ?_
          refine r_sld dX_law_349 (by omega) (by omega) (by omega) ?_
          refine r_aload_n 0 1 dX_law_350 rfl rfl ?_
          refine r_iload_n 3 0 dX_law_351 rfl rfl ?_
          refine r_iconst dX_law_352 ?_
          refine r_iadd dX_law_353 ?_
          refine r_sld dX_law_354 (by omega) (by omega) (by omega) ?_
          refine r_cVI (cM_pleased wl (zsc xs (i + 1)) (zsc xs (i + 2)) (by omega) (by omega)) qM_pleased rfl kw_705 rfl rfl dX_law_355 (st0 := [zI (zsc xs (i + 2)), zI (zsc xs (i + 1)), zR 33]) (st := []) rfl ⟨Nat.le_of_ble_eq_true rfl, Nat.le_of_ble_eq_true rfl⟩ ⟨Nat.le_of_ble_eq_true rfl, Nat.le_of_ble_eq_true rfl⟩ (Nat.le_of_ble_eq_true rfl) (fun a_355 w_355 h_355 ok_355 => ?_)
          obtain ⟨rfl, h_355⟩ := h_355
          have hRb : zRel wl wl := k_pleased hR hOl ok_340 ⟨rfl, h_340⟩ ⟨rfl, h_355⟩
          refine r_pop dX_law_358 ?_
          refine r_goto 1151 dX_law_359 (by decide) ?_
          refine r_iinc (ls' := [(3, zI (i + 7)), (0, zR 52), (1, zR 0), (2, zR 33)]) 3 0 dX_law_1151 rfl (by decide) rfl ?_
          refine r_goto 18 dX_law_1154 (by decide) ?_
          exact ih_18 (i + 7) wl (by omega) (by omega) hRb (by omega)
        · refine r_tableIn 362 dX_law_33 ⟨by omega, by omega⟩ (by omega) (by omega) (by rw [c_33] <;> rfl) (by decide) ?_
          refine r_aload_n 1 2 dX_law_362 rfl rfl ?_
          refine r_aload_n 0 1 dX_law_363 rfl rfl ?_
          refine r_iload_n 3 0 dX_law_364 rfl rfl ?_
          refine r_iconst dX_law_365 ?_
          refine r_iadd dX_law_366 ?_
          refine r_sld dX_law_367 (by omega) (by omega) (by omega) ?_
          refine r_aload_n 0 1 dX_law_368 rfl rfl ?_
          refine r_iload_n 3 0 dX_law_369 rfl rfl ?_
          refine r_iconst dX_law_370 ?_
          refine r_iadd dX_law_371 ?_
          refine r_sld dX_law_372 (by omega) (by omega) (by omega) ?_
          refine r_aload_n 0 1 dX_law_373 rfl rfl ?_
          refine r_iload_n 3 0 dX_law_374 rfl rfl ?_
          refine r_iconst dX_law_375 ?_
          refine r_iadd dX_law_376 ?_
          refine r_sld dX_law_377 (by omega) (by omega) (by omega) ?_
          refine r_aload_n 0 1 dX_law_378 rfl rfl ?_
          refine r_iload_n 3 0 dX_law_379 rfl rfl ?_
          refine r_iconst dX_law_380 ?_
          refine r_iadd dX_law_381 ?_
          refine r_sld dX_law_382 (by omega) (by omega) (by omega) ?_
          refine r_aload_n 0 1 dX_law_383 rfl rfl ?_
          refine r_iload_n 3 0 dX_law_384 rfl rfl ?_
          refine r_iconst dX_law_385 ?_
          refine r_iadd dX_law_386 ?_
          refine r_sld dX_law_387 (by omega) (by omega) (by omega) ?_
          refine r_aload_n 0 1 dX_law_388 rfl rfl ?_
          refine r_iload_n 3 0 dX_law_389 rfl rfl ?_
          refine r_bipush dX_law_390 (by decide) ?_
          refine r_iadd dX_law_392 ?_
          refine r_sld dX_law_393 (by omega) (by omega) (by omega) ?_
          refine r_cVI (cC_season wl (zsc xs (i + 1)) (zsc xs (i + 2)) (zsc xs (i + 3)) (zsc xs (i + 4)) (zsc xs (i + 5)) (zsc xs (i + 6)) (by omega) (by omega) (by omega) (by omega) (by omega) (by omega)) qC_season rfl kw_310 rfl rfl dX_law_394 (st0 := [zI (zsc xs (i + 6)), zI (zsc xs (i + 5)), zI (zsc xs (i + 4)), zI (zsc xs (i + 3)), zI (zsc xs (i + 2)), zI (zsc xs (i + 1)), zR 0]) (st := []) rfl ⟨Nat.le_of_ble_eq_true rfl, Nat.le_of_ble_eq_true rfl⟩ ⟨Nat.le_of_ble_eq_true rfl, Nat.le_of_ble_eq_true rfl⟩ (Nat.le_of_ble_eq_true rfl) (fun a_394 w_394 h_394 ok_394 => ?_)
          refine r_pop dX_law_397 ?_
          refine r_aload_n 2 3 dX_law_398 rfl rfl ?_
          refine r_aload_n 0 1 dX_law_399 rfl rfl ?_
          refine r_iload_n 3 0 dX_law_400 rfl rfl ?_
          refine r_iconst dX_law_401 ?_
          refine r_iadd dX_law_402 ?_
          refine r_sld dX_law_403 (by omega) (by omega) (by omega) ?_
          refine r_aload_n 0 1 dX_law_404 rfl rfl ?_
          refine r_iload_n 3 0 dX_law_405 rfl rfl ?_
          refine r_iconst dX_law_406 ?_
          refine r_iadd dX_law_407 ?_
          refine r_sld dX_law_408 (by omega) (by omega) (by omega) ?_
          refine r_aload_n 0 1 dX_law_409 rfl rfl ?_
          refine r_iload_n 3 0 dX_law_410 rfl rfl ?_
          refine r_iconst dX_law_411 ?_
          refine r_iadd dX_law_412 ?_
          refine r_sld dX_law_413 (by omega) (by omega) (by omega) ?_
          refine r_aload_n 0 1 dX_law_414 rfl rfl ?_
          refine r_iload_n 3 0 dX_law_415 rfl rfl ?_
          refine r_iconst dX_law_416 ?_
          refine r_iadd dX_law_417 ?_
          refine r_sld dX_law_418 (by omega) (by omega) (by omega) ?_
          refine r_aload_n 0 1 dX_law_419 rfl rfl ?_
          refine r_iload_n 3 0 dX_law_420 rfl rfl ?_
          refine r_iconst dX_law_421 ?_
          refine r_iadd dX_law_422 ?_
          refine r_sld dX_law_423 (by omega) (by omega) (by omega) ?_
          refine r_aload_n 0 1 dX_law_424 rfl rfl ?_
          refine r_iload_n 3 0 dX_law_425 rfl rfl ?_
          refine r_bipush dX_law_426 (by decide) ?_
          refine r_iadd dX_law_428 ?_
          refine r_sld dX_law_429 (by omega) (by omega) (by omega) ?_
          refine r_cVI (cM_season w_394 (zsc xs (i + 1)) (zsc xs (i + 2)) (zsc xs (i + 3)) (zsc xs (i + 4)) (zsc xs (i + 5)) (zsc xs (i + 6)) (by omega) (by omega) (by omega) (by omega) (by omega) (by omega)) qM_season rfl kw_709 rfl rfl dX_law_430 (st0 := [zI (zsc xs (i + 6)), zI (zsc xs (i + 5)), zI (zsc xs (i + 4)), zI (zsc xs (i + 3)), zI (zsc xs (i + 2)), zI (zsc xs (i + 1)), zR 33]) (st := []) rfl ⟨Nat.le_of_ble_eq_true rfl, Nat.le_of_ble_eq_true rfl⟩ ⟨Nat.le_of_ble_eq_true rfl, Nat.le_of_ble_eq_true rfl⟩ (Nat.le_of_ble_eq_true rfl) (fun a_430 w_430 h_430 ok_430 => ?_)
          have hRb : zRel w_430 w_430 := k_season hR hOl ok_394 h_394 h_430
          refine r_pop dX_law_433 ?_
          refine r_goto 1151 dX_law_434 (by decide) ?_
          refine r_iinc (ls' := [(3, zI (i + 7)), (0, zR 52), (1, zR 0), (2, zR 33)]) 3 0 dX_law_1151 rfl (by decide) rfl ?_
          refine r_goto 18 dX_law_1154 (by decide) ?_
          exact ih_18 (i + 7) w_430 (by omega) (by omega) hRb (by omega)
        · refine r_tableIn 437 dX_law_33 ⟨by omega, by omega⟩ (by omega) (by omega) (by rw [c_33] <;> rfl) (by decide) ?_
          refine r_aload_n 1 2 dX_law_437 rfl rfl ?_
          refine r_aload_n 0 1 dX_law_438 rfl rfl ?_
          refine r_iload_n 3 0 dX_law_439 rfl rfl ?_
          refine r_iconst dX_law_440 ?_
          refine r_iadd dX_law_441 ?_
          refine r_sld dX_law_442 (by omega) (by omega) (by omega) ?_
          refine r_aload_n 0 1 dX_law_443 rfl rfl ?_
          refine r_iload_n 3 0 dX_law_444 rfl rfl ?_
          refine r_iconst dX_law_445 ?_
          refine r_iadd dX_law_446 ?_
          refine r_sld dX_law_447 (by omega) (by omega) (by omega) ?_
          refine r_aload_n 0 1 dX_law_448 rfl rfl ?_
          refine r_iload_n 3 0 dX_law_449 rfl rfl ?_
          refine r_iconst dX_law_450 ?_
          refine r_iadd dX_law_451 ?_
          refine r_sld dX_law_452 (by omega) (by omega) (by omega) ?_
          refine r_aload_n 0 1 dX_law_453 rfl rfl ?_
          refine r_iload_n 3 0 dX_law_454 rfl rfl ?_
          refine r_iconst dX_law_455 ?_
          refine r_iadd dX_law_456 ?_
          refine r_sld dX_law_457 (by omega) (by omega) (by omega) ?_
          refine r_aload_n 0 1 dX_law_458 rfl rfl ?_
          refine r_iload_n 3 0 dX_law_459 rfl rfl ?_
          refine r_iconst dX_law_460 ?_
          refine r_iadd dX_law_461 ?_
          refine r_sld dX_law_462 (by omega) (by omega) (by omega) ?_
          refine r_cVI (cC_may wl (zsc xs (i + 1)) (zsc xs (i + 2)) (zsc xs (i + 3)) (zsc xs (i + 4)) (zsc xs (i + 5)) (by omega) (by omega) (by omega) (by omega) (by omega)) qC_may rfl kw_331 rfl rfl dX_law_463 (st0 := [zI (zsc xs (i + 5)), zI (zsc xs (i + 4)), zI (zsc xs (i + 3)), zI (zsc xs (i + 2)), zI (zsc xs (i + 1)), zR 0]) (st := []) rfl ⟨Nat.le_of_ble_eq_true rfl, Nat.le_of_ble_eq_true rfl⟩ ⟨Nat.le_of_ble_eq_true rfl, Nat.le_of_ble_eq_true rfl⟩ (Nat.le_of_ble_eq_true rfl) (fun a_463 w_463 h_463 ok_463 => ?_)
          refine r_pop dX_law_466 ?_
          refine r_aload_n 2 3 dX_law_467 rfl rfl ?_
          refine r_aload_n 0 1 dX_law_468 rfl rfl ?_
          refine r_iload_n 3 0 dX_law_469 rfl rfl ?_
          refine r_iconst dX_law_470 ?_
          refine r_iadd dX_law_471 ?_
          refine r_sld dX_law_472 (by omega) (by omega) (by omega) ?_
          refine r_aload_n 0 1 dX_law_473 rfl rfl ?_
          refine r_iload_n 3 0 dX_law_474 rfl rfl ?_
          refine r_iconst dX_law_475 ?_
          refine r_iadd dX_law_476 ?_
          refine r_sld dX_law_477 (by omega) (by omega) (by omega) ?_
          refine r_aload_n 0 1 dX_law_478 rfl rfl ?_
          refine r_iload_n 3 0 dX_law_479 rfl rfl ?_
          refine r_iconst dX_law_480 ?_
          refine r_iadd dX_law_481 ?_
          refine r_sld dX_law_482 (by omega) (by omega) (by omega) ?_
          refine r_aload_n 0 1 dX_law_483 rfl rfl ?_
          refine r_iload_n 3 0 dX_law_484 rfl rfl ?_
          refine r_iconst dX_law_485 ?_
          refine r_iadd dX_law_486 ?_
          refine r_sld dX_law_487 (by omega) (by omega) (by omega) ?_
          refine r_aload_n 0 1 dX_law_488 rfl rfl ?_
          refine r_iload_n 3 0 dX_law_489 rfl rfl ?_
          refine r_iconst dX_law_490 ?_
          refine r_iadd dX_law_491 ?_
          refine r_sld dX_law_492 (by omega) (by omega) (by omega) ?_
          refine r_cVI (cM_may w_463 (zsc xs (i + 1)) (zsc xs (i + 2)) (zsc xs (i + 3)) (zsc xs (i + 4)) (zsc xs (i + 5)) (by omega) (by omega) (by omega) (by omega) (by omega)) qM_may rfl kw_723 rfl rfl dX_law_493 (st0 := [zI (zsc xs (i + 5)), zI (zsc xs (i + 4)), zI (zsc xs (i + 3)), zI (zsc xs (i + 2)), zI (zsc xs (i + 1)), zR 33]) (st := []) rfl ⟨Nat.le_of_ble_eq_true rfl, Nat.le_of_ble_eq_true rfl⟩ ⟨Nat.le_of_ble_eq_true rfl, Nat.le_of_ble_eq_true rfl⟩ (Nat.le_of_ble_eq_true rfl) (fun a_493 w_493 h_493 ok_493 => ?_)
          have hRb : zRel w_493 w_493 := k_may hR hOl ok_463 h_463 h_493
          refine r_pop dX_law_496 ?_
          refine r_goto 1151 dX_law_497 (by decide) ?_
          refine r_iinc (ls' := [(3, zI (i + 7)), (0, zR 52), (1, zR 0), (2, zR 33)]) 3 0 dX_law_1151 rfl (by decide) rfl ?_
          refine r_goto 18 dX_law_1154 (by decide) ?_
          exact ih_18 (i + 7) w_493 (by omega) (by omega) hRb (by omega)
        · refine r_tableIn 500 dX_law_33 ⟨by omega, by omega⟩ (by omega) (by omega) (by rw [c_33] <;> rfl) (by decide) ?_
          refine r_aload_n 1 2 dX_law_500 rfl rfl ?_
          refine r_aload_n 0 1 dX_law_501 rfl rfl ?_
          refine r_iload_n 3 0 dX_law_502 rfl rfl ?_
          refine r_iconst dX_law_503 ?_
          refine r_iadd dX_law_504 ?_
          refine r_sld dX_law_505 (by omega) (by omega) (by omega) ?_
          refine r_cVI (cC_ask wl (zsc xs (i + 1)) (by omega)) qC_ask rfl kw_339 rfl rfl dX_law_506 (st0 := [zI (zsc xs (i + 1)), zR 0]) (st := []) rfl ⟨Nat.le_of_ble_eq_true rfl, Nat.le_of_ble_eq_true rfl⟩ ⟨Nat.le_of_ble_eq_true rfl, Nat.le_of_ble_eq_true rfl⟩ (Nat.le_of_ble_eq_true rfl) (fun a_506 w_506 h_506 ok_506 => ?_)
          obtain ⟨rfl, h_506⟩ := h_506
          refine r_pop dX_law_509 ?_
          refine r_aload_n 2 3 dX_law_510 rfl rfl ?_
          refine r_aload_n 0 1 dX_law_511 rfl rfl ?_
          refine r_iload_n 3 0 dX_law_512 rfl rfl ?_
          refine r_iconst dX_law_513 ?_
          refine r_iadd dX_law_514 ?_
          refine r_sld dX_law_515 (by omega) (by omega) (by omega) ?_
          refine r_cVI (cM_ask wl (zsc xs (i + 1)) (by omega)) qM_ask rfl kw_731 rfl rfl dX_law_516 (st0 := [zI (zsc xs (i + 1)), zR 33]) (st := []) rfl ⟨Nat.le_of_ble_eq_true rfl, Nat.le_of_ble_eq_true rfl⟩ ⟨Nat.le_of_ble_eq_true rfl, Nat.le_of_ble_eq_true rfl⟩ (Nat.le_of_ble_eq_true rfl) (fun a_516 w_516 h_516 ok_516 => ?_)
          obtain ⟨rfl, h_516⟩ := h_516
          have hRb : zRel wl wl := k_ask hR hOl ok_506 ⟨rfl, h_506⟩ ⟨rfl, h_516⟩
          refine r_pop dX_law_519 ?_
          refine r_goto 1151 dX_law_520 (by decide) ?_
          refine r_iinc (ls' := [(3, zI (i + 7)), (0, zR 52), (1, zR 0), (2, zR 33)]) 3 0 dX_law_1151 rfl (by decide) rfl ?_
          refine r_goto 18 dX_law_1154 (by decide) ?_
          exact ih_18 (i + 7) wl (by omega) (by omega) hRb (by omega)
        · refine r_tableIn 523 dX_law_33 ⟨by omega, by omega⟩ (by omega) (by omega) (by rw [c_33] <;> rfl) (by decide) ?_
          refine r_aload_n 1 2 dX_law_523 rfl rfl ?_
          refine r_aload_n 0 1 dX_law_524 rfl rfl ?_
          refine r_iload_n 3 0 dX_law_525 rfl rfl ?_
          refine r_iconst dX_law_526 ?_
          refine r_iadd dX_law_527 ?_
          refine r_sld dX_law_528 (by omega) (by omega) (by omega) ?_
          refine r_cVI (cC_dull wl (zsc xs (i + 1)) (by omega)) qC_dull rfl kw_346 rfl rfl dX_law_529 (st0 := [zI (zsc xs (i + 1)), zR 0]) (st := []) rfl ⟨Nat.le_of_ble_eq_true rfl, Nat.le_of_ble_eq_true rfl⟩ ⟨Nat.le_of_ble_eq_true rfl, Nat.le_of_ble_eq_true rfl⟩ (Nat.le_of_ble_eq_true rfl) (fun a_529 w_529 h_529 ok_529 => ?_)
          obtain ⟨rfl, h_529⟩ := h_529
          refine r_pop dX_law_532 ?_
          refine r_aload_n 2 3 dX_law_533 rfl rfl ?_
          refine r_aload_n 0 1 dX_law_534 rfl rfl ?_
          refine r_iload_n 3 0 dX_law_535 rfl rfl ?_
          refine r_iconst dX_law_536 ?_
          refine r_iadd dX_law_537 ?_
          refine r_sld dX_law_538 (by omega) (by omega) (by omega) ?_
          refine r_cVI (cM_dull wl (zsc xs (i + 1)) (by omega)) qM_dull rfl kw_742 rfl rfl dX_law_539 (st0 := [zI (zsc xs (i + 1)), zR 33]) (st := []) rfl ⟨Nat.le_of_ble_eq_true rfl, Nat.le_of_ble_eq_true rfl⟩ ⟨Nat.le_of_ble_eq_true rfl, Nat.le_of_ble_eq_true rfl⟩ (Nat.le_of_ble_eq_true rfl) (fun a_539 w_539 h_539 ok_539 => ?_)
          obtain ⟨rfl, h_539⟩ := h_539
          have hRb : zRel wl wl := k_dull hR hOl ok_529 ⟨rfl, h_529⟩ ⟨rfl, h_539⟩
          refine r_pop dX_law_542 ?_
          refine r_goto 1151 dX_law_543 (by decide) ?_
          refine r_iinc (ls' := [(3, zI (i + 7)), (0, zR 52), (1, zR 0), (2, zR 33)]) 3 0 dX_law_1151 rfl (by decide) rfl ?_
          refine r_goto 18 dX_law_1154 (by decide) ?_
          exact ih_18 (i + 7) wl (by omega) (by omega) hRb (by omega)
        · refine r_tableIn 546 dX_law_33 ⟨by omega, by omega⟩ (by omega) (by omega) (by rw [c_33] <;> rfl) (by decide) ?_
          refine r_aload_n 1 2 dX_law_546 rfl rfl ?_
          refine r_aload_n 0 1 dX_law_547 rfl rfl ?_
          refine r_iload_n 3 0 dX_law_548 rfl rfl ?_
          refine r_iconst dX_law_549 ?_
          refine r_iadd dX_law_550 ?_
          refine r_sld dX_law_551 (by omega) (by omega) (by omega) ?_
          refine r_cVI (cC_fewest wl (zsc xs (i + 1)) (by omega)) qC_fewest rfl kw_350 rfl rfl dX_law_552 (st0 := [zI (zsc xs (i + 1)), zR 0]) (st := []) rfl ⟨Nat.le_of_ble_eq_true rfl, Nat.le_of_ble_eq_true rfl⟩ ⟨Nat.le_of_ble_eq_true rfl, Nat.le_of_ble_eq_true rfl⟩ (Nat.le_of_ble_eq_true rfl) (fun a_552 w_552 h_552 ok_552 => ?_)
          refine r_pop dX_law_555 ?_
          refine r_aload_n 2 3 dX_law_556 rfl rfl ?_
          refine r_aload_n 0 1 dX_law_557 rfl rfl ?_
          refine r_iload_n 3 0 dX_law_558 rfl rfl ?_
          refine r_iconst dX_law_559 ?_
          refine r_iadd dX_law_560 ?_
          refine r_sld dX_law_561 (by omega) (by omega) (by omega) ?_
          refine r_cVI (cM_fewest w_552 (zsc xs (i + 1)) (by omega) (by rw [h_552.2 33 6 rfl, h_552.2 33 3 rfl]; exact hR.ng)) qM_fewest rfl kw_746 rfl rfl dX_law_562 (st0 := [zI (zsc xs (i + 1)), zR 33]) (st := []) rfl ⟨Nat.le_of_ble_eq_true rfl, Nat.le_of_ble_eq_true rfl⟩ ⟨Nat.le_of_ble_eq_true rfl, Nat.le_of_ble_eq_true rfl⟩ (Nat.le_of_ble_eq_true rfl) (fun a_562 w_562 h_562 ok_562 => ?_)
          have hRb : zRel w_562 w_562 := k_fewest hR hOl ok_552 h_552 h_562
          refine r_pop dX_law_565 ?_
          refine r_goto 1151 dX_law_566 (by decide) ?_
          refine r_iinc (ls' := [(3, zI (i + 7)), (0, zR 52), (1, zR 0), (2, zR 33)]) 3 0 dX_law_1151 rfl (by decide) rfl ?_
          refine r_goto 18 dX_law_1154 (by decide) ?_
          exact ih_18 (i + 7) w_562 (by omega) (by omega) hRb (by omega)
        · refine r_tableIn 569 dX_law_33 ⟨by omega, by omega⟩ (by omega) (by omega) (by rw [c_33] <;> rfl) (by decide) ?_
          refine r_aload_n 1 2 dX_law_569 rfl rfl ?_
          refine r_aload_n 0 1 dX_law_570 rfl rfl ?_
          refine r_iload_n 3 0 dX_law_571 rfl rfl ?_
          refine r_iconst dX_law_572 ?_
          refine r_iadd dX_law_573 ?_
          refine r_sld dX_law_574 (by omega) (by omega) (by omega) ?_
          refine r_aload_n 0 1 dX_law_575 rfl rfl ?_
          refine r_iload_n 3 0 dX_law_576 rfl rfl ?_
          refine r_iconst dX_law_577 ?_
          refine r_iadd dX_law_578 ?_
          refine r_sld dX_law_579 (by omega) (by omega) (by omega) ?_
          refine r_aload_n 0 1 dX_law_580 rfl rfl ?_
          refine r_iload_n 3 0 dX_law_581 rfl rfl ?_
          refine r_iconst dX_law_582 ?_
          refine r_iadd dX_law_583 ?_
          refine r_sld dX_law_584 (by omega) (by omega) (by omega) ?_
          refine r_if_eq 592 dX_law_585 (by decide) ⟨by omega, by omega⟩ (fun c_585 => ?_) (fun c_585 => ?_)
          · refine r_iconst dX_law_592 ?_
            refine r_cVI (cC_reading wl (zsc xs (i + 1)) (zsc xs (i + 2)) 0 (by omega) (by omega) (by omega)) qC_reading rfl kw_380 rfl rfl dX_law_593 (st0 := [zI 0, zI (zsc xs (i + 2)), zI (zsc xs (i + 1)), zR 0]) (st := []) rfl ⟨Nat.le_of_ble_eq_true rfl, Nat.le_of_ble_eq_true rfl⟩ ⟨Nat.le_of_ble_eq_true rfl, Nat.le_of_ble_eq_true rfl⟩ (Nat.le_of_ble_eq_true rfl) (fun a_593 w_593 h_593 ok_593 => ?_)
            refine r_pop dX_law_596 ?_
            refine r_aload_n 2 3 dX_law_597 rfl rfl ?_
            refine r_aload_n 0 1 dX_law_598 rfl rfl ?_
            refine r_iload_n 3 0 dX_law_599 rfl rfl ?_
            refine r_iconst dX_law_600 ?_
            refine r_iadd dX_law_601 ?_
            refine r_sld dX_law_602 (by omega) (by omega) (by omega) ?_
            refine r_aload_n 0 1 dX_law_603 rfl rfl ?_
            refine r_iload_n 3 0 dX_law_604 rfl rfl ?_
            refine r_iconst dX_law_605 ?_
            refine r_iadd dX_law_606 ?_
            refine r_sld dX_law_607 (by omega) (by omega) (by omega) ?_
            refine r_aload_n 0 1 dX_law_608 rfl rfl ?_
            refine r_iload_n 3 0 dX_law_609 rfl rfl ?_
            refine r_iconst dX_law_610 ?_
            refine r_iadd dX_law_611 ?_
            refine r_sld dX_law_612 (by omega) (by omega) (by omega) ?_
            refine r_if_eq 620 dX_law_613 (by decide) ⟨by omega, by omega⟩ (fun c_613 => ?_) (fun c_613 => ?_)
            · refine r_iconst dX_law_620 ?_
              refine r_cVI (cM_reading w_593 (zsc xs (i + 1)) (zsc xs (i + 2)) 0 (by omega) (by omega) (by omega)) qM_reading rfl kw_754 rfl rfl dX_law_621 (st0 := [zI 0, zI (zsc xs (i + 2)), zI (zsc xs (i + 1)), zR 33]) (st := []) rfl ⟨Nat.le_of_ble_eq_true rfl, Nat.le_of_ble_eq_true rfl⟩ ⟨Nat.le_of_ble_eq_true rfl, Nat.le_of_ble_eq_true rfl⟩ (Nat.le_of_ble_eq_true rfl) (fun a_621 w_621 h_621 ok_621 => ?_)
              have hRb : zRel w_621 w_621 := (by first | exact k_reading hR hOl ok_593 h_593 h_621 | (exfalso; omega))
              refine r_pop dX_law_624 ?_
              refine r_goto 1151 dX_law_625 (by decide) ?_
              refine r_iinc (ls' := [(3, zI (i + 7)), (0, zR 52), (1, zR 0), (2, zR 33)]) 3 0 dX_law_1151 rfl (by decide) rfl ?_
              refine r_goto 18 dX_law_1154 (by decide) ?_
              exact ih_18 (i + 7) w_621 (by omega) (by omega) hRb (by omega)
            · refine r_iconst dX_law_616 ?_
              refine r_goto 621 dX_law_617 (by decide) ?_
              refine r_cVI (cM_reading w_593 (zsc xs (i + 1)) (zsc xs (i + 2)) 1 (by omega) (by omega) (by omega)) qM_reading rfl kw_754 rfl rfl dX_law_621 (st0 := [zI 1, zI (zsc xs (i + 2)), zI (zsc xs (i + 1)), zR 33]) (st := []) rfl ⟨Nat.le_of_ble_eq_true rfl, Nat.le_of_ble_eq_true rfl⟩ ⟨Nat.le_of_ble_eq_true rfl, Nat.le_of_ble_eq_true rfl⟩ (Nat.le_of_ble_eq_true rfl) (fun a_621 w_621 h_621 ok_621 => ?_)
              have hRb : zRel w_621 w_621 := (by first | exact k_reading hR hOl ok_593 h_593 h_621 | (exfalso; omega))
              refine r_pop dX_law_624 ?_
              refine r_goto 1151 dX_law_625 (by decide) ?_
              refine r_iinc (ls' := [(3, zI (i + 7)), (0, zR 52), (1, zR 0), (2, zR 33)]) 3 0 dX_law_1151 rfl (by decide) rfl ?_
              refine r_goto 18 dX_law_1154 (by decide) ?_
              exact ih_18 (i + 7) w_621 (by omega) (by omega) hRb (by omega)
          · refine r_iconst dX_law_588 ?_
            refine r_goto 593 dX_law_589 (by decide) ?_
            refine r_cVI (cC_reading wl (zsc xs (i + 1)) (zsc xs (i + 2)) 1 (by omega) (by omega) (by omega)) qC_reading rfl kw_380 rfl rfl dX_law_593 (st0 := [zI 1, zI (zsc xs (i + 2)), zI (zsc xs (i + 1)), zR 0]) (st := []) rfl ⟨Nat.le_of_ble_eq_true rfl, Nat.le_of_ble_eq_true rfl⟩ ⟨Nat.le_of_ble_eq_true rfl, Nat.le_of_ble_eq_true rfl⟩ (Nat.le_of_ble_eq_true rfl) (fun a_593 w_593 h_593 ok_593 => ?_)
            refine r_pop dX_law_596 ?_
            refine r_aload_n 2 3 dX_law_597 rfl rfl ?_
            refine r_aload_n 0 1 dX_law_598 rfl rfl ?_
            refine r_iload_n 3 0 dX_law_599 rfl rfl ?_
            refine r_iconst dX_law_600 ?_
            refine r_iadd dX_law_601 ?_
            refine r_sld dX_law_602 (by omega) (by omega) (by omega) ?_
            refine r_aload_n 0 1 dX_law_603 rfl rfl ?_
            refine r_iload_n 3 0 dX_law_604 rfl rfl ?_
            refine r_iconst dX_law_605 ?_
            refine r_iadd dX_law_606 ?_
            refine r_sld dX_law_607 (by omega) (by omega) (by omega) ?_
            refine r_aload_n 0 1 dX_law_608 rfl rfl ?_
            refine r_iload_n 3 0 dX_law_609 rfl rfl ?_
            refine r_iconst dX_law_610 ?_
            refine r_iadd dX_law_611 ?_
            refine r_sld dX_law_612 (by omega) (by omega) (by omega) ?_
            refine r_if_eq 620 dX_law_613 (by decide) ⟨by omega, by omega⟩ (fun c_613 => ?_) (fun c_613 => ?_)
            · refine r_iconst dX_law_620 ?_
              refine r_cVI (cM_reading w_593 (zsc xs (i + 1)) (zsc xs (i + 2)) 0 (by omega) (by omega) (by omega)) qM_reading rfl kw_754 rfl rfl dX_law_621 (st0 := [zI 0, zI (zsc xs (i + 2)), zI (zsc xs (i + 1)), zR 33]) (st := []) rfl ⟨Nat.le_of_ble_eq_true rfl, Nat.le_of_ble_eq_true rfl⟩ ⟨Nat.le_of_ble_eq_true rfl, Nat.le_of_ble_eq_true rfl⟩ (Nat.le_of_ble_eq_true rfl) (fun a_621 w_621 h_621 ok_621 => ?_)
              have hRb : zRel w_621 w_621 := (by first | exact k_reading hR hOl ok_593 h_593 h_621 | (exfalso; omega))
              refine r_pop dX_law_624 ?_
              refine r_goto 1151 dX_law_625 (by decide) ?_
              refine r_iinc (ls' := [(3, zI (i + 7)), (0, zR 52), (1, zR 0), (2, zR 33)]) 3 0 dX_law_1151 rfl (by decide) rfl ?_
              refine r_goto 18 dX_law_1154 (by decide) ?_
              exact ih_18 (i + 7) w_621 (by omega) (by omega) hRb (by omega)
            · refine r_iconst dX_law_616 ?_
              refine r_goto 621 dX_law_617 (by decide) ?_
              refine r_cVI (cM_reading w_593 (zsc xs (i + 1)) (zsc xs (i + 2)) 1 (by omega) (by omega) (by omega)) qM_reading rfl kw_754 rfl rfl dX_law_621 (st0 := [zI 1, zI (zsc xs (i + 2)), zI (zsc xs (i + 1)), zR 33]) (st := []) rfl ⟨Nat.le_of_ble_eq_true rfl, Nat.le_of_ble_eq_true rfl⟩ ⟨Nat.le_of_ble_eq_true rfl, Nat.le_of_ble_eq_true rfl⟩ (Nat.le_of_ble_eq_true rfl) (fun a_621 w_621 h_621 ok_621 => ?_)
              have hRb : zRel w_621 w_621 := (by first | exact k_reading hR hOl ok_593 h_593 h_621 | (exfalso; omega))
              refine r_pop dX_law_624 ?_
              refine r_goto 1151 dX_law_625 (by decide) ?_
              refine r_iinc (ls' := [(3, zI (i + 7)), (0, zR 52), (1, zR 0), (2, zR 33)]) 3 0 dX_law_1151 rfl (by decide) rfl ?_
              refine r_goto 18 dX_law_1154 (by decide) ?_
              exact ih_18 (i + 7) w_621 (by omega) (by omega) hRb (by omega)
        · refine r_tableIn 628 dX_law_33 ⟨by omega, by omega⟩ (by omega) (by omega) (by rw [c_33] <;> rfl) (by decide) ?_
          refine r_aload_n 1 2 dX_law_628 rfl rfl ?_
          refine r_aload_n 0 1 dX_law_629 rfl rfl ?_
          refine r_iload_n 3 0 dX_law_630 rfl rfl ?_
          refine r_iconst dX_law_631 ?_
          refine r_iadd dX_law_632 ?_
          refine r_sld dX_law_633 (by omega) (by omega) (by omega) ?_
          refine r_cVI (cC_back wl (zsc xs (i + 1)) (by omega)) qC_back rfl kw_388 rfl rfl dX_law_634 (st0 := [zI (zsc xs (i + 1)), zR 0]) (st := []) rfl ⟨Nat.le_of_ble_eq_true rfl, Nat.le_of_ble_eq_true rfl⟩ ⟨Nat.le_of_ble_eq_true rfl, Nat.le_of_ble_eq_true rfl⟩ (Nat.le_of_ble_eq_true rfl) (fun a_634 w_634 h_634 ok_634 => ?_)
          refine r_pop dX_law_637 ?_
          refine r_aload_n 2 3 dX_law_638 rfl rfl ?_
          refine r_aload_n 0 1 dX_law_639 rfl rfl ?_
          refine r_iload_n 3 0 dX_law_640 rfl rfl ?_
          refine r_iconst dX_law_641 ?_
          refine r_iadd dX_law_642 ?_
          refine r_sld dX_law_643 (by omega) (by omega) (by omega) ?_
          refine r_cVI (cM_back w_634 (zsc xs (i + 1)) (by omega)) qM_back rfl kw_758 rfl rfl dX_law_644 (st0 := [zI (zsc xs (i + 1)), zR 33]) (st := []) rfl ⟨Nat.le_of_ble_eq_true rfl, Nat.le_of_ble_eq_true rfl⟩ ⟨Nat.le_of_ble_eq_true rfl, Nat.le_of_ble_eq_true rfl⟩ (Nat.le_of_ble_eq_true rfl) (fun a_644 w_644 h_644 ok_644 => ?_)
          have hRb : zRel w_644 w_644 := k_back hR hOl ok_634 h_634 h_644
          refine r_pop dX_law_647 ?_
          refine r_goto 1151 dX_law_648 (by decide) ?_
          refine r_iinc (ls' := [(3, zI (i + 7)), (0, zR 52), (1, zR 0), (2, zR 33)]) 3 0 dX_law_1151 rfl (by decide) rfl ?_
          refine r_goto 18 dX_law_1154 (by decide) ?_
          exact ih_18 (i + 7) w_644 (by omega) (by omega) hRb (by omega)
        · refine r_tableIn 651 dX_law_33 ⟨by omega, by omega⟩ (by omega) (by omega) (by rw [c_33] <;> rfl) (by decide) ?_
          refine r_aload_n 1 2 dX_law_651 rfl rfl ?_
          refine r_cVI (cC_limits wl) qC_limits rfl kw_392 rfl rfl dX_law_652 (st0 := [zR 0]) (st := []) rfl ⟨Nat.le_of_ble_eq_true rfl, Nat.le_of_ble_eq_true rfl⟩ ⟨Nat.le_of_ble_eq_true rfl, Nat.le_of_ble_eq_true rfl⟩ (Nat.le_of_ble_eq_true rfl) (fun a_652 w_652 h_652 ok_652 => ?_)
          obtain ⟨rfl, h_652⟩ := h_652
          refine r_pop dX_law_655 ?_
          refine r_aload_n 2 3 dX_law_656 rfl rfl ?_
          refine r_cVI (cM_limits wl) qM_limits rfl kw_762 rfl rfl dX_law_657 (st0 := [zR 33]) (st := []) rfl ⟨Nat.le_of_ble_eq_true rfl, Nat.le_of_ble_eq_true rfl⟩ ⟨Nat.le_of_ble_eq_true rfl, Nat.le_of_ble_eq_true rfl⟩ (Nat.le_of_ble_eq_true rfl) (fun a_657 w_657 h_657 ok_657 => ?_)
          obtain ⟨rfl, h_657⟩ := h_657
          have hRb : zRel wl wl := k_limits hR hOl ok_652 ⟨rfl, h_652⟩ ⟨rfl, h_657⟩
          refine r_pop dX_law_660 ?_
          refine r_goto 1151 dX_law_661 (by decide) ?_
          refine r_iinc (ls' := [(3, zI (i + 7)), (0, zR 52), (1, zR 0), (2, zR 33)]) 3 0 dX_law_1151 rfl (by decide) rfl ?_
          refine r_goto 18 dX_law_1154 (by decide) ?_
          exact ih_18 (i + 7) wl (by omega) (by omega) hRb (by omega)
        · refine r_tableIn 664 dX_law_33 ⟨by omega, by omega⟩ (by omega) (by omega) (by rw [c_33] <;> rfl) (by decide) ?_
          refine r_aload_n 1 2 dX_law_664 rfl rfl ?_
          refine r_aload_n 0 1 dX_law_665 rfl rfl ?_
          refine r_iload_n 3 0 dX_law_666 rfl rfl ?_
          refine r_iconst dX_law_667 ?_
          refine r_iadd dX_law_668 ?_
          refine r_sld dX_law_669 (by omega) (by omega) (by omega) ?_
          refine r_cVI (cC_kinds wl (zsc xs (i + 1)) (by omega)) qC_kinds rfl kw_401 rfl rfl dX_law_670 (st0 := [zI (zsc xs (i + 1)), zR 0]) (st := []) rfl ⟨Nat.le_of_ble_eq_true rfl, Nat.le_of_ble_eq_true rfl⟩ ⟨Nat.le_of_ble_eq_true rfl, Nat.le_of_ble_eq_true rfl⟩ (Nat.le_of_ble_eq_true rfl) (fun a_670 w_670 h_670 ok_670 => ?_)
          obtain ⟨rfl, h_670⟩ := h_670
          refine r_pop dX_law_673 ?_
          refine r_aload_n 2 3 dX_law_674 rfl rfl ?_
          refine r_aload_n 0 1 dX_law_675 rfl rfl ?_
          refine r_iload_n 3 0 dX_law_676 rfl rfl ?_
          refine r_iconst dX_law_677 ?_
          refine r_iadd dX_law_678 ?_
          refine r_sld dX_law_679 (by omega) (by omega) (by omega) ?_
          refine r_cVI (cM_kinds wl (zsc xs (i + 1)) (by omega)) qM_kinds rfl kw_770 rfl rfl dX_law_680 (st0 := [zI (zsc xs (i + 1)), zR 33]) (st := []) rfl ⟨Nat.le_of_ble_eq_true rfl, Nat.le_of_ble_eq_true rfl⟩ ⟨Nat.le_of_ble_eq_true rfl, Nat.le_of_ble_eq_true rfl⟩ (Nat.le_of_ble_eq_true rfl) (fun a_680 w_680 h_680 ok_680 => ?_)
          obtain ⟨rfl, h_680⟩ := h_680
          have hRb : zRel wl wl := k_kinds hR hOl ok_670 ⟨rfl, h_670⟩ ⟨rfl, h_680⟩
          refine r_pop dX_law_683 ?_
          refine r_goto 1151 dX_law_684 (by decide) ?_
          refine r_iinc (ls' := [(3, zI (i + 7)), (0, zR 52), (1, zR 0), (2, zR 33)]) 3 0 dX_law_1151 rfl (by decide) rfl ?_
          refine r_goto 18 dX_law_1154 (by decide) ?_
          exact ih_18 (i + 7) wl (by omega) (by omega) hRb (by omega)
        · refine r_tableIn 687 dX_law_33 ⟨by omega, by omega⟩ (by omega) (by omega) (by rw [c_33] <;> rfl) (by decide) ?_
          refine r_aload_n 1 2 dX_law_687 rfl rfl ?_
          refine r_aload_n 0 1 dX_law_688 rfl rfl ?_
          refine r_iload_n 3 0 dX_law_689 rfl rfl ?_
          refine r_iconst dX_law_690 ?_
          refine r_iadd dX_law_691 ?_
          refine r_sld dX_law_692 (by omega) (by omega) (by omega) ?_
          refine r_cVI (cC_tastes wl (zsc xs (i + 1)) (by omega)) qC_tastes rfl kw_409 rfl rfl dX_law_693 (st0 := [zI (zsc xs (i + 1)), zR 0]) (st := []) rfl ⟨Nat.le_of_ble_eq_true rfl, Nat.le_of_ble_eq_true rfl⟩ ⟨Nat.le_of_ble_eq_true rfl, Nat.le_of_ble_eq_true rfl⟩ (Nat.le_of_ble_eq_true rfl) (fun a_693 w_693 h_693 ok_693 => ?_)
          obtain ⟨rfl, h_693⟩ := h_693
          refine r_pop dX_law_696 ?_
          refine r_aload_n 2 3 dX_law_697 rfl rfl ?_
          refine r_aload_n 0 1 dX_law_698 rfl rfl ?_
          refine r_iload_n 3 0 dX_law_699 rfl rfl ?_
          refine r_iconst dX_law_700 ?_
          refine r_iadd dX_law_701 ?_
          refine r_sld dX_law_702 (by omega) (by omega) (by omega) ?_
          refine r_cVI (cM_tastes wl (zsc xs (i + 1)) (by omega)) qM_tastes rfl kw_774 rfl rfl dX_law_703 (st0 := [zI (zsc xs (i + 1)), zR 33]) (st := []) rfl ⟨Nat.le_of_ble_eq_true rfl, Nat.le_of_ble_eq_true rfl⟩ ⟨Nat.le_of_ble_eq_true rfl, Nat.le_of_ble_eq_true rfl⟩ (Nat.le_of_ble_eq_true rfl) (fun a_703 w_703 h_703 ok_703 => ?_)
          obtain ⟨rfl, h_703⟩ := h_703
          have hRb : zRel wl wl := k_tastes hR hOl ok_693 ⟨rfl, h_693⟩ ⟨rfl, h_703⟩
          refine r_pop dX_law_706 ?_
          refine r_goto 1151 dX_law_707 (by decide) ?_
          refine r_iinc (ls' := [(3, zI (i + 7)), (0, zR 52), (1, zR 0), (2, zR 33)]) 3 0 dX_law_1151 rfl (by decide) rfl ?_
          refine r_goto 18 dX_law_1154 (by decide) ?_
          exact ih_18 (i + 7) wl (by omega) (by omega) hRb (by omega)
        · refine r_tableIn 710 dX_law_33 ⟨by omega, by omega⟩ (by omega) (by omega) (by rw [c_33] <;> rfl) (by decide) ?_
          refine r_aload_n 1 2 dX_law_710 rfl rfl ?_
          refine r_aload_n 0 1 dX_law_711 rfl rfl ?_
          refine r_iload_n 3 0 dX_law_712 rfl rfl ?_
          refine r_iconst dX_law_713 ?_
          refine r_iadd dX_law_714 ?_
          refine r_sld dX_law_715 (by omega) (by omega) (by omega) ?_
          refine r_cVI (cC_charms wl (zsc xs (i + 1)) (by omega)) qC_charms rfl kw_413 rfl rfl dX_law_716 (st0 := [zI (zsc xs (i + 1)), zR 0]) (st := []) rfl ⟨Nat.le_of_ble_eq_true rfl, Nat.le_of_ble_eq_true rfl⟩ ⟨Nat.le_of_ble_eq_true rfl, Nat.le_of_ble_eq_true rfl⟩ (Nat.le_of_ble_eq_true rfl) (fun a_716 w_716 h_716 ok_716 => ?_)
          obtain ⟨rfl, h_716⟩ := h_716
          refine r_pop dX_law_719 ?_
          refine r_aload_n 2 3 dX_law_720 rfl rfl ?_
          refine r_aload_n 0 1 dX_law_721 rfl rfl ?_
          refine r_iload_n 3 0 dX_law_722 rfl rfl ?_
          refine r_iconst dX_law_723 ?_
          refine r_iadd dX_law_724 ?_
          refine r_sld dX_law_725 (by omega) (by omega) (by omega) ?_
          refine r_cVI (cM_charms wl (zsc xs (i + 1)) (by omega)) qM_charms rfl kw_778 rfl rfl dX_law_726 (st0 := [zI (zsc xs (i + 1)), zR 33]) (st := []) rfl ⟨Nat.le_of_ble_eq_true rfl, Nat.le_of_ble_eq_true rfl⟩ ⟨Nat.le_of_ble_eq_true rfl, Nat.le_of_ble_eq_true rfl⟩ (Nat.le_of_ble_eq_true rfl) (fun a_726 w_726 h_726 ok_726 => ?_)
          obtain ⟨rfl, h_726⟩ := h_726
          have hRb : zRel wl wl := k_charms hR hOl ok_716 ⟨rfl, h_716⟩ ⟨rfl, h_726⟩
          refine r_pop dX_law_729 ?_
          refine r_goto 1151 dX_law_730 (by decide) ?_
          refine r_iinc (ls' := [(3, zI (i + 7)), (0, zR 52), (1, zR 0), (2, zR 33)]) 3 0 dX_law_1151 rfl (by decide) rfl ?_
          refine r_goto 18 dX_law_1154 (by decide) ?_
          exact ih_18 (i + 7) wl (by omega) (by omega) hRb (by omega)
        · refine r_tableIn 733 dX_law_33 ⟨by omega, by omega⟩ (by omega) (by omega) (by rw [c_33] <;> rfl) (by decide) ?_
          refine r_aload_n 1 2 dX_law_733 rfl rfl ?_
          refine r_aload_n 0 1 dX_law_734 rfl rfl ?_
          refine r_iload_n 3 0 dX_law_735 rfl rfl ?_
          refine r_iconst dX_law_736 ?_
          refine r_iadd dX_law_737 ?_
          refine r_sld dX_law_738 (by omega) (by omega) (by omega) ?_
          refine r_aload_n 0 1 dX_law_739 rfl rfl ?_
          refine r_iload_n 3 0 dX_law_740 rfl rfl ?_
          refine r_iconst dX_law_741 ?_
          refine r_iadd dX_law_742 ?_
          refine r_sld dX_law_743 (by omega) (by omega) (by omega) ?_
          refine r_aload_n 0 1 dX_law_744 rfl rfl ?_
          refine r_iload_n 3 0 dX_law_745 rfl rfl ?_
          refine r_iconst dX_law_746 ?_
          refine r_iadd dX_law_747 ?_
          refine r_sld dX_law_748 (by omega) (by omega) (by omega) ?_
          refine r_aload_n 0 1 dX_law_749 rfl rfl ?_
          refine r_iload_n 3 0 dX_law_750 rfl rfl ?_
          refine r_iconst dX_law_751 ?_
          refine r_iadd dX_law_752 ?_
          refine r_sld dX_law_753 (by omega) (by omega) (by omega) ?_
          refine r_aload_n 0 1 dX_law_754 rfl rfl ?_
          refine r_iload_n 3 0 dX_law_755 rfl rfl ?_
          refine r_iconst dX_law_756 ?_
          refine r_iadd dX_law_757 ?_
          refine r_sld dX_law_758 (by omega) (by omega) (by omega) ?_
          refine r_aload_n 0 1 dX_law_759 rfl rfl ?_
          refine r_iload_n 3 0 dX_law_760 rfl rfl ?_
          refine r_bipush dX_law_761 (by decide) ?_
          refine r_iadd dX_law_763 ?_
          refine r_sld dX_law_764 (by omega) (by omega) (by omega) ?_
          refine r_cVJ (cC_odds wl (zsc xs (i + 1)) (zsc xs (i + 2)) (zsc xs (i + 3)) (zsc xs (i + 4)) (zsc xs (i + 5)) (zsc xs (i + 6)) (by omega) (by omega) (by omega) (by omega) (by omega) (by omega)) qC_odds rfl kw_417 rfl rfl dX_law_765 (st0 := [zI (zsc xs (i + 6)), zI (zsc xs (i + 5)), zI (zsc xs (i + 4)), zI (zsc xs (i + 3)), zI (zsc xs (i + 2)), zI (zsc xs (i + 1)), zR 0]) (st := []) rfl ⟨Nat.le_of_ble_eq_true rfl, Nat.le_of_ble_eq_true rfl⟩ ⟨Nat.le_of_ble_eq_true rfl, Nat.le_of_ble_eq_true rfl⟩ (Nat.le_of_ble_eq_true rfl) (fun a_765 w_765 h_765 ok_765 => ?_)
          refine r_pop2 dX_law_768 ?_
          refine r_aload_n 2 3 dX_law_769 rfl rfl ?_
          refine r_aload_n 0 1 dX_law_770 rfl rfl ?_
          refine r_iload_n 3 0 dX_law_771 rfl rfl ?_
          refine r_iconst dX_law_772 ?_
          refine r_iadd dX_law_773 ?_
          refine r_sld dX_law_774 (by omega) (by omega) (by omega) ?_
          refine r_aload_n 0 1 dX_law_775 rfl rfl ?_
          refine r_iload_n 3 0 dX_law_776 rfl rfl ?_
          refine r_iconst dX_law_777 ?_
          refine r_iadd dX_law_778 ?_
          refine r_sld dX_law_779 (by omega) (by omega) (by omega) ?_
          refine r_aload_n 0 1 dX_law_780 rfl rfl ?_
          refine r_iload_n 3 0 dX_law_781 rfl rfl ?_
          refine r_iconst dX_law_782 ?_
          refine r_iadd dX_law_783 ?_
          refine r_sld dX_law_784 (by omega) (by omega) (by omega) ?_
          refine r_aload_n 0 1 dX_law_785 rfl rfl ?_
          refine r_iload_n 3 0 dX_law_786 rfl rfl ?_
          refine r_iconst dX_law_787 ?_
          refine r_iadd dX_law_788 ?_
          refine r_sld dX_law_789 (by omega) (by omega) (by omega) ?_
          refine r_aload_n 0 1 dX_law_790 rfl rfl ?_
          refine r_iload_n 3 0 dX_law_791 rfl rfl ?_
          refine r_iconst dX_law_792 ?_
          refine r_iadd dX_law_793 ?_
          refine r_sld dX_law_794 (by omega) (by omega) (by omega) ?_
          refine r_aload_n 0 1 dX_law_795 rfl rfl ?_
          refine r_iload_n 3 0 dX_law_796 rfl rfl ?_
          refine r_bipush dX_law_797 (by decide) ?_
          refine r_iadd dX_law_799 ?_
          refine r_sld dX_law_800 (by omega) (by omega) (by omega) ?_
          refine r_cVJ (cM_odds w_765 (zsc xs (i + 1)) (zsc xs (i + 2)) (zsc xs (i + 3)) (zsc xs (i + 4)) (zsc xs (i + 5)) (zsc xs (i + 6)) (by omega) (by omega) (by omega) (by omega) (by omega) (by omega)) qM_odds rfl kw_782 rfl rfl dX_law_801 (st0 := [zI (zsc xs (i + 6)), zI (zsc xs (i + 5)), zI (zsc xs (i + 4)), zI (zsc xs (i + 3)), zI (zsc xs (i + 2)), zI (zsc xs (i + 1)), zR 33]) (st := []) rfl ⟨Nat.le_of_ble_eq_true rfl, Nat.le_of_ble_eq_true rfl⟩ ⟨Nat.le_of_ble_eq_true rfl, Nat.le_of_ble_eq_true rfl⟩ (Nat.le_of_ble_eq_true rfl) (fun a_801 w_801 h_801 ok_801 => ?_)
          have hRb : zRel w_801 w_801 := k_odds hR hOl ok_765 h_765 h_801
          refine r_pop2 dX_law_804 ?_
          refine r_goto 1151 dX_law_805 (by decide) ?_
          refine r_iinc (ls' := [(3, zI (i + 7)), (0, zR 52), (1, zR 0), (2, zR 33)]) 3 0 dX_law_1151 rfl (by decide) rfl ?_
          refine r_goto 18 dX_law_1154 (by decide) ?_
          exact ih_18 (i + 7) w_801 (by omega) (by omega) hRb (by omega)
        · refine r_tableIn 808 dX_law_33 ⟨by omega, by omega⟩ (by omega) (by omega) (by rw [c_33] <;> rfl) (by decide) ?_
          refine r_aload_n 1 2 dX_law_808 rfl rfl ?_
          refine r_aload_n 0 1 dX_law_809 rfl rfl ?_
          refine r_iload_n 3 0 dX_law_810 rfl rfl ?_
          refine r_iconst dX_law_811 ?_
          refine r_iadd dX_law_812 ?_
          refine r_sld dX_law_813 (by omega) (by omega) (by omega) ?_
          refine r_aload_n 0 1 dX_law_814 rfl rfl ?_
          refine r_iload_n 3 0 dX_law_815 rfl rfl ?_
          refine r_iconst dX_law_816 ?_
          refine r_iadd dX_law_817 ?_
          refine r_sld dX_law_818 (by omega) (by omega) (by omega) ?_
          refine r_aload_n 0 1 dX_law_819 rfl rfl ?_
          refine r_iload_n 3 0 dX_law_820 rfl rfl ?_
          refine r_iconst dX_law_821 ?_
          refine r_iadd dX_law_822 ?_
          refine r_sld dX_law_823 (by omega) (by omega) (by omega) ?_
          refine r_cVI (cC_sheet wl (zsc xs (i + 1)) (zsc xs (i + 2)) (zsc xs (i + 3)) (by omega) (by omega) (by omega)) qC_sheet rfl kw_425 rfl rfl dX_law_824 (st0 := [zI (zsc xs (i + 3)), zI (zsc xs (i + 2)), zI (zsc xs (i + 1)), zR 0]) (st := []) rfl ⟨Nat.le_of_ble_eq_true rfl, Nat.le_of_ble_eq_true rfl⟩ ⟨Nat.le_of_ble_eq_true rfl, Nat.le_of_ble_eq_true rfl⟩ (Nat.le_of_ble_eq_true rfl) (fun a_824 w_824 h_824 ok_824 => ?_)
          refine r_pop dX_law_827 ?_
          refine r_aload_n 2 3 dX_law_828 rfl rfl ?_
          refine r_aload_n 0 1 dX_law_829 rfl rfl ?_
          refine r_iload_n 3 0 dX_law_830 rfl rfl ?_
          refine r_iconst dX_law_831 ?_
          refine r_iadd dX_law_832 ?_
          refine r_sld dX_law_833 (by omega) (by omega) (by omega) ?_
          refine r_aload_n 0 1 dX_law_834 rfl rfl ?_
          refine r_iload_n 3 0 dX_law_835 rfl rfl ?_
          refine r_iconst dX_law_836 ?_
          refine r_iadd dX_law_837 ?_
          refine r_sld dX_law_838 (by omega) (by omega) (by omega) ?_
          refine r_aload_n 0 1 dX_law_839 rfl rfl ?_
          refine r_iload_n 3 0 dX_law_840 rfl rfl ?_
          refine r_iconst dX_law_841 ?_
          refine r_iadd dX_law_842 ?_
          refine r_sld dX_law_843 (by omega) (by omega) (by omega) ?_
          refine r_cVI (cM_sheet w_824 (zsc xs (i + 1)) (zsc xs (i + 2)) (zsc xs (i + 3)) (by omega) (by omega) (by omega)) qM_sheet rfl kw_797 rfl rfl dX_law_844 (st0 := [zI (zsc xs (i + 3)), zI (zsc xs (i + 2)), zI (zsc xs (i + 1)), zR 33]) (st := []) rfl ⟨Nat.le_of_ble_eq_true rfl, Nat.le_of_ble_eq_true rfl⟩ ⟨Nat.le_of_ble_eq_true rfl, Nat.le_of_ble_eq_true rfl⟩ (Nat.le_of_ble_eq_true rfl) (fun a_844 w_844 h_844 ok_844 => ?_)
          have hRb : zRel w_844 w_844 := k_sheet hR hOl ok_824 h_824 h_844
          refine r_pop dX_law_847 ?_
          refine r_goto 1151 dX_law_848 (by decide) ?_
          refine r_iinc (ls' := [(3, zI (i + 7)), (0, zR 52), (1, zR 0), (2, zR 33)]) 3 0 dX_law_1151 rfl (by decide) rfl ?_
          refine r_goto 18 dX_law_1154 (by decide) ?_
          exact ih_18 (i + 7) w_844 (by omega) (by omega) hRb (by omega)
        · refine r_tableIn 851 dX_law_33 ⟨by omega, by omega⟩ (by omega) (by omega) (by rw [c_33] <;> rfl) (by decide) ?_
          refine r_aload_n 1 2 dX_law_851 rfl rfl ?_
          refine r_aload_n 0 1 dX_law_852 rfl rfl ?_
          refine r_iload_n 3 0 dX_law_853 rfl rfl ?_
          refine r_iconst dX_law_854 ?_
          refine r_iadd dX_law_855 ?_
          refine r_sld dX_law_856 (by omega) (by omega) (by omega) ?_
          refine r_cVI (cC_lose wl (zsc xs (i + 1)) (by omega)) qC_lose rfl kw_433 rfl rfl dX_law_857 (st0 := [zI (zsc xs (i + 1)), zR 0]) (st := []) rfl ⟨Nat.le_of_ble_eq_true rfl, Nat.le_of_ble_eq_true rfl⟩ ⟨Nat.le_of_ble_eq_true rfl, Nat.le_of_ble_eq_true rfl⟩ (Nat.le_of_ble_eq_true rfl) (fun a_857 w_857 h_857 ok_857 => ?_)
          refine r_pop dX_law_860 ?_
          refine r_aload_n 2 3 dX_law_861 rfl rfl ?_
          refine r_aload_n 0 1 dX_law_862 rfl rfl ?_
          refine r_iload_n 3 0 dX_law_863 rfl rfl ?_
          refine r_iconst dX_law_864 ?_
          refine r_iadd dX_law_865 ?_
          refine r_sld dX_law_866 (by omega) (by omega) (by omega) ?_
          refine r_cVI (cM_lose w_857 (zsc xs (i + 1)) (by omega)) qM_lose rfl kw_801 rfl rfl dX_law_867 (st0 := [zI (zsc xs (i + 1)), zR 33]) (st := []) rfl ⟨Nat.le_of_ble_eq_true rfl, Nat.le_of_ble_eq_true rfl⟩ ⟨Nat.le_of_ble_eq_true rfl, Nat.le_of_ble_eq_true rfl⟩ (Nat.le_of_ble_eq_true rfl) (fun a_867 w_867 h_867 ok_867 => ?_)
          have hRb : zRel w_867 w_867 := k_lose hR hOl ok_857 h_857 h_867
          refine r_pop dX_law_870 ?_
          refine r_goto 1151 dX_law_871 (by decide) ?_
          refine r_iinc (ls' := [(3, zI (i + 7)), (0, zR 52), (1, zR 0), (2, zR 33)]) 3 0 dX_law_1151 rfl (by decide) rfl ?_
          refine r_goto 18 dX_law_1154 (by decide) ?_
          exact ih_18 (i + 7) w_867 (by omega) (by omega) hRb (by omega)
        · refine r_tableIn 874 dX_law_33 ⟨by omega, by omega⟩ (by omega) (by omega) (by rw [c_33] <;> rfl) (by decide) ?_
          refine r_aload_n 1 2 dX_law_874 rfl rfl ?_
          refine r_aload_n 0 1 dX_law_875 rfl rfl ?_
          refine r_iload_n 3 0 dX_law_876 rfl rfl ?_
          refine r_iconst dX_law_877 ?_
          refine r_iadd dX_law_878 ?_
          refine r_sld dX_law_879 (by omega) (by omega) (by omega) ?_
          refine r_aload_n 0 1 dX_law_880 rfl rfl ?_
          refine r_iload_n 3 0 dX_law_881 rfl rfl ?_
          refine r_iconst dX_law_882 ?_
          refine r_iadd dX_law_883 ?_
          refine r_sld dX_law_884 (by omega) (by omega) (by omega) ?_
          refine r_aload_n 0 1 dX_law_885 rfl rfl ?_
          refine r_iload_n 3 0 dX_law_886 rfl rfl ?_
          refine r_iconst dX_law_887 ?_
          refine r_iadd dX_law_888 ?_
          refine r_sld dX_law_889 (by omega) (by omega) (by omega) ?_
          refine r_cVI (cC_put wl (zsc xs (i + 1)) (zsc xs (i + 2)) (zsc xs (i + 3)) (by omega) (by omega) (by omega)) qC_put rfl kw_437 rfl rfl dX_law_890 (st0 := [zI (zsc xs (i + 3)), zI (zsc xs (i + 2)), zI (zsc xs (i + 1)), zR 0]) (st := []) rfl ⟨Nat.le_of_ble_eq_true rfl, Nat.le_of_ble_eq_true rfl⟩ ⟨Nat.le_of_ble_eq_true rfl, Nat.le_of_ble_eq_true rfl⟩ (Nat.le_of_ble_eq_true rfl) (fun a_890 w_890 h_890 ok_890 => ?_)
          refine r_pop dX_law_893 ?_
          refine r_aload_n 2 3 dX_law_894 rfl rfl ?_
          refine r_aload_n 0 1 dX_law_895 rfl rfl ?_
          refine r_iload_n 3 0 dX_law_896 rfl rfl ?_
          refine r_iconst dX_law_897 ?_
          refine r_iadd dX_law_898 ?_
          refine r_sld dX_law_899 (by omega) (by omega) (by omega) ?_
          refine r_aload_n 0 1 dX_law_900 rfl rfl ?_
          refine r_iload_n 3 0 dX_law_901 rfl rfl ?_
          refine r_iconst dX_law_902 ?_
          refine r_iadd dX_law_903 ?_
          refine r_sld dX_law_904 (by omega) (by omega) (by omega) ?_
          refine r_aload_n 0 1 dX_law_905 rfl rfl ?_
          refine r_iload_n 3 0 dX_law_906 rfl rfl ?_
          refine r_iconst dX_law_907 ?_
          refine r_iadd dX_law_908 ?_
          refine r_sld dX_law_909 (by omega) (by omega) (by omega) ?_
          refine r_cVI (cM_put w_890 (zsc xs (i + 1)) (zsc xs (i + 2)) (zsc xs (i + 3)) (by omega) (by omega) (by omega)) qM_put rfl kw_805 rfl rfl dX_law_910 (st0 := [zI (zsc xs (i + 3)), zI (zsc xs (i + 2)), zI (zsc xs (i + 1)), zR 33]) (st := []) rfl ⟨Nat.le_of_ble_eq_true rfl, Nat.le_of_ble_eq_true rfl⟩ ⟨Nat.le_of_ble_eq_true rfl, Nat.le_of_ble_eq_true rfl⟩ (Nat.le_of_ble_eq_true rfl) (fun a_910 w_910 h_910 ok_910 => ?_)
          have hRb : zRel w_910 w_910 := k_put hR hOl ok_890 h_890 h_910
          refine r_pop dX_law_913 ?_
          refine r_goto 1151 dX_law_914 (by decide) ?_
          refine r_iinc (ls' := [(3, zI (i + 7)), (0, zR 52), (1, zR 0), (2, zR 33)]) 3 0 dX_law_1151 rfl (by decide) rfl ?_
          refine r_goto 18 dX_law_1154 (by decide) ?_
          exact ih_18 (i + 7) w_910 (by omega) (by omega) hRb (by omega)
        · refine r_tableIn 917 dX_law_33 ⟨by omega, by omega⟩ (by omega) (by omega) (by rw [c_33] <;> rfl) (by decide) ?_
          refine r_aload_n 1 2 dX_law_917 rfl rfl ?_
          refine r_aload_n 0 1 dX_law_918 rfl rfl ?_
          refine r_iload_n 3 0 dX_law_919 rfl rfl ?_
          refine r_iconst dX_law_920 ?_
          refine r_iadd dX_law_921 ?_
          refine r_sld dX_law_922 (by omega) (by omega) (by omega) ?_
          refine r_aload_n 0 1 dX_law_923 rfl rfl ?_
          refine r_iload_n 3 0 dX_law_924 rfl rfl ?_
          refine r_iconst dX_law_925 ?_
          refine r_iadd dX_law_926 ?_
          refine r_sld dX_law_927 (by omega) (by omega) (by omega) ?_
          refine r_aload_n 0 1 dX_law_928 rfl rfl ?_
          refine r_iload_n 3 0 dX_law_929 rfl rfl ?_
          refine r_iconst dX_law_930 ?_
          refine r_iadd dX_law_931 ?_
          refine r_sld dX_law_932 (by omega) (by omega) (by omega) ?_
          refine r_cVJ (cC_cell wl (zsc xs (i + 1)) (zsc xs (i + 2)) (zsc xs (i + 3)) (by omega) (by omega) (by omega)) qC_cell rfl kw_448 rfl rfl dX_law_933 (st0 := [zI (zsc xs (i + 3)), zI (zsc xs (i + 2)), zI (zsc xs (i + 1)), zR 0]) (st := []) rfl ⟨Nat.le_of_ble_eq_true rfl, Nat.le_of_ble_eq_true rfl⟩ ⟨Nat.le_of_ble_eq_true rfl, Nat.le_of_ble_eq_true rfl⟩ (Nat.le_of_ble_eq_true rfl) (fun a_933 w_933 h_933 ok_933 => ?_)
          refine r_pop2 dX_law_936 ?_
          refine r_aload_n 2 3 dX_law_937 rfl rfl ?_
          refine r_aload_n 0 1 dX_law_938 rfl rfl ?_
          refine r_iload_n 3 0 dX_law_939 rfl rfl ?_
          refine r_iconst dX_law_940 ?_
          refine r_iadd dX_law_941 ?_
          refine r_sld dX_law_942 (by omega) (by omega) (by omega) ?_
          refine r_aload_n 0 1 dX_law_943 rfl rfl ?_
          refine r_iload_n 3 0 dX_law_944 rfl rfl ?_
          refine r_iconst dX_law_945 ?_
          refine r_iadd dX_law_946 ?_
          refine r_sld dX_law_947 (by omega) (by omega) (by omega) ?_
          refine r_aload_n 0 1 dX_law_948 rfl rfl ?_
          refine r_iload_n 3 0 dX_law_949 rfl rfl ?_
          refine r_iconst dX_law_950 ?_
          refine r_iadd dX_law_951 ?_
          refine r_sld dX_law_952 (by omega) (by omega) (by omega) ?_
          refine r_cVJ (cM_cell w_933 (zsc xs (i + 1)) (zsc xs (i + 2)) (zsc xs (i + 3)) (by omega) (by omega) (by omega)) qM_cell rfl kw_813 rfl rfl dX_law_953 (st0 := [zI (zsc xs (i + 3)), zI (zsc xs (i + 2)), zI (zsc xs (i + 1)), zR 33]) (st := []) rfl ⟨Nat.le_of_ble_eq_true rfl, Nat.le_of_ble_eq_true rfl⟩ ⟨Nat.le_of_ble_eq_true rfl, Nat.le_of_ble_eq_true rfl⟩ (Nat.le_of_ble_eq_true rfl) (fun a_953 w_953 h_953 ok_953 => ?_)
          have hRb : zRel w_953 w_953 := k_cell hR hOl ok_933 h_933 h_953
          refine r_pop2 dX_law_956 ?_
          refine r_goto 1151 dX_law_957 (by decide) ?_
          refine r_iinc (ls' := [(3, zI (i + 7)), (0, zR 52), (1, zR 0), (2, zR 33)]) 3 0 dX_law_1151 rfl (by decide) rfl ?_
          refine r_goto 18 dX_law_1154 (by decide) ?_
          exact ih_18 (i + 7) w_953 (by omega) (by omega) hRb (by omega)
        · refine r_tableIn 960 dX_law_33 ⟨by omega, by omega⟩ (by omega) (by omega) (by rw [c_33] <;> rfl) (by decide) ?_
          refine r_aload_n 1 2 dX_law_960 rfl rfl ?_
          refine r_aload_n 0 1 dX_law_961 rfl rfl ?_
          refine r_iload_n 3 0 dX_law_962 rfl rfl ?_
          refine r_iconst dX_law_963 ?_
          refine r_iadd dX_law_964 ?_
          refine r_sld dX_law_965 (by omega) (by omega) (by omega) ?_
          refine r_aload_n 0 1 dX_law_966 rfl rfl ?_
          refine r_iload_n 3 0 dX_law_967 rfl rfl ?_
          refine r_iconst dX_law_968 ?_
          refine r_iadd dX_law_969 ?_
          refine r_sld dX_law_970 (by omega) (by omega) (by omega) ?_
          refine r_aload_n 0 1 dX_law_971 rfl rfl ?_
          refine r_iload_n 3 0 dX_law_972 rfl rfl ?_
          refine r_iconst dX_law_973 ?_
          refine r_iadd dX_law_974 ?_
          refine r_sld dX_law_975 (by omega) (by omega) (by omega) ?_
          refine r_aload_n 0 1 dX_law_976 rfl rfl ?_
          refine r_iload_n 3 0 dX_law_977 rfl rfl ?_
          refine r_iconst dX_law_978 ?_
          refine r_iadd dX_law_979 ?_
          refine r_sld dX_law_980 (by omega) (by omega) (by omega) ?_
          refine r_aload_n 0 1 dX_law_981 rfl rfl ?_
          refine r_iload_n 3 0 dX_law_982 rfl rfl ?_
          refine r_iconst dX_law_983 ?_
          refine r_iadd dX_law_984 ?_
          refine r_sld dX_law_985 (by omega) (by omega) (by omega) ?_
          refine r_cVI (cC_copy wl (zsc xs (i + 1)) (zsc xs (i + 2)) (zsc xs (i + 3)) (zsc xs (i + 4)) (zsc xs (i + 5)) (by omega) (by omega) (by omega) (by omega) (by omega)) qC_copy rfl kw_452 rfl rfl dX_law_986 (st0 := [zI (zsc xs (i + 5)), zI (zsc xs (i + 4)), zI (zsc xs (i + 3)), zI (zsc xs (i + 2)), zI (zsc xs (i + 1)), zR 0]) (st := []) rfl ⟨Nat.le_of_ble_eq_true rfl, Nat.le_of_ble_eq_true rfl⟩ ⟨Nat.le_of_ble_eq_true rfl, Nat.le_of_ble_eq_true rfl⟩ (Nat.le_of_ble_eq_true rfl) (fun a_986 w_986 h_986 ok_986 => ?_)
          refine r_pop dX_law_989 ?_
          refine r_aload_n 2 3 dX_law_990 rfl rfl ?_
          refine r_aload_n 0 1 dX_law_991 rfl rfl ?_
          refine r_iload_n 3 0 dX_law_992 rfl rfl ?_
          refine r_iconst dX_law_993 ?_
          refine r_iadd dX_law_994 ?_
          refine r_sld dX_law_995 (by omega) (by omega) (by omega) ?_
          refine r_aload_n 0 1 dX_law_996 rfl rfl ?_
          refine r_iload_n 3 0 dX_law_997 rfl rfl ?_
          refine r_iconst dX_law_998 ?_
          refine r_iadd dX_law_999 ?_
          refine r_sld dX_law_1000 (by omega) (by omega) (by omega) ?_
          refine r_aload_n 0 1 dX_law_1001 rfl rfl ?_
          refine r_iload_n 3 0 dX_law_1002 rfl rfl ?_
          refine r_iconst dX_law_1003 ?_
          refine r_iadd dX_law_1004 ?_
          refine r_sld dX_law_1005 (by omega) (by omega) (by omega) ?_
          refine r_aload_n 0 1 dX_law_1006 rfl rfl ?_
          refine r_iload_n 3 0 dX_law_1007 rfl rfl ?_
          refine r_iconst dX_law_1008 ?_
          refine r_iadd dX_law_1009 ?_
          refine r_sld dX_law_1010 (by omega) (by omega) (by omega) ?_
          refine r_aload_n 0 1 dX_law_1011 rfl rfl ?_
          refine r_iload_n 3 0 dX_law_1012 rfl rfl ?_
          refine r_iconst dX_law_1013 ?_
          refine r_iadd dX_law_1014 ?_
          refine r_sld dX_law_1015 (by omega) (by omega) (by omega) ?_
          refine r_cVI (cM_copy w_986 (zsc xs (i + 1)) (zsc xs (i + 2)) (zsc xs (i + 3)) (zsc xs (i + 4)) (zsc xs (i + 5)) (by omega) (by omega) (by omega) (by omega) (by omega)) qM_copy rfl kw_821 rfl rfl dX_law_1016 (st0 := [zI (zsc xs (i + 5)), zI (zsc xs (i + 4)), zI (zsc xs (i + 3)), zI (zsc xs (i + 2)), zI (zsc xs (i + 1)), zR 33]) (st := []) rfl ⟨Nat.le_of_ble_eq_true rfl, Nat.le_of_ble_eq_true rfl⟩ ⟨Nat.le_of_ble_eq_true rfl, Nat.le_of_ble_eq_true rfl⟩ (Nat.le_of_ble_eq_true rfl) (fun a_1016 w_1016 h_1016 ok_1016 => ?_)
          have hRb : zRel w_1016 w_1016 := k_copy hR hOl ok_986 h_986 h_1016
          refine r_pop dX_law_1019 ?_
          refine r_goto 1151 dX_law_1020 (by decide) ?_
          refine r_iinc (ls' := [(3, zI (i + 7)), (0, zR 52), (1, zR 0), (2, zR 33)]) 3 0 dX_law_1151 rfl (by decide) rfl ?_
          refine r_goto 18 dX_law_1154 (by decide) ?_
          exact ih_18 (i + 7) w_1016 (by omega) (by omega) hRb (by omega)
        · refine r_tableIn 1023 dX_law_33 ⟨by omega, by omega⟩ (by omega) (by omega) (by rw [c_33] <;> rfl) (by decide) ?_
          refine r_aload_n 1 2 dX_law_1023 rfl rfl ?_
          refine r_aload_n 0 1 dX_law_1024 rfl rfl ?_
          refine r_iload_n 3 0 dX_law_1025 rfl rfl ?_
          refine r_iconst dX_law_1026 ?_
          refine r_iadd dX_law_1027 ?_
          refine r_sld dX_law_1028 (by omega) (by omega) (by omega) ?_
          refine r_cVI (cC_tell wl (zsc xs (i + 1)) (by omega)) qC_tell rfl kw_459 rfl rfl dX_law_1029 (st0 := [zI (zsc xs (i + 1)), zR 0]) (st := []) rfl ⟨Nat.le_of_ble_eq_true rfl, Nat.le_of_ble_eq_true rfl⟩ ⟨Nat.le_of_ble_eq_true rfl, Nat.le_of_ble_eq_true rfl⟩ (Nat.le_of_ble_eq_true rfl) (fun a_1029 w_1029 h_1029 ok_1029 => ?_)
          refine r_pop dX_law_1032 ?_
          refine r_aload_n 2 3 dX_law_1033 rfl rfl ?_
          refine r_aload_n 0 1 dX_law_1034 rfl rfl ?_
          refine r_iload_n 3 0 dX_law_1035 rfl rfl ?_
          refine r_iconst dX_law_1036 ?_
          refine r_iadd dX_law_1037 ?_
          refine r_sld dX_law_1038 (by omega) (by omega) (by omega) ?_
          refine r_cVI (cM_tell w_1029 (zsc xs (i + 1)) (by omega)) qM_tell rfl kw_825 rfl rfl dX_law_1039 (st0 := [zI (zsc xs (i + 1)), zR 33]) (st := []) rfl ⟨Nat.le_of_ble_eq_true rfl, Nat.le_of_ble_eq_true rfl⟩ ⟨Nat.le_of_ble_eq_true rfl, Nat.le_of_ble_eq_true rfl⟩ (Nat.le_of_ble_eq_true rfl) (fun a_1039 w_1039 h_1039 ok_1039 => ?_)
          have hRb : zRel w_1039 w_1039 := k_tell hR hOl ok_1029 h_1029 h_1039
          refine r_pop dX_law_1042 ?_
          refine r_goto 1151 dX_law_1043 (by decide) ?_
          refine r_iinc (ls' := [(3, zI (i + 7)), (0, zR 52), (1, zR 0), (2, zR 33)]) 3 0 dX_law_1151 rfl (by decide) rfl ?_
          refine r_goto 18 dX_law_1154 (by decide) ?_
          exact ih_18 (i + 7) w_1039 (by omega) (by omega) hRb (by omega)
        · refine r_tableIn 1046 dX_law_33 ⟨by omega, by omega⟩ (by omega) (by omega) (by rw [c_33] <;> rfl) (by decide) ?_
          refine r_aload_n 1 2 dX_law_1046 rfl rfl ?_
          refine r_aload_n 0 1 dX_law_1047 rfl rfl ?_
          refine r_iload_n 3 0 dX_law_1048 rfl rfl ?_
          refine r_iconst dX_law_1049 ?_
          refine r_iadd dX_law_1050 ?_
          refine r_sld dX_law_1051 (by omega) (by omega) (by omega) ?_
          refine r_cVI (cC_greet wl (zsc xs (i + 1)) (by omega)) qC_greet rfl kw_479 rfl rfl dX_law_1052 (st0 := [zI (zsc xs (i + 1)), zR 0]) (st := []) rfl ⟨Nat.le_of_ble_eq_true rfl, Nat.le_of_ble_eq_true rfl⟩ ⟨Nat.le_of_ble_eq_true rfl, Nat.le_of_ble_eq_true rfl⟩ (Nat.le_of_ble_eq_true rfl) (fun a_1052 w_1052 h_1052 ok_1052 => ?_)
          refine r_pop dX_law_1055 ?_
          refine r_aload_n 2 3 dX_law_1056 rfl rfl ?_
          refine r_aload_n 0 1 dX_law_1057 rfl rfl ?_
          refine r_iload_n 3 0 dX_law_1058 rfl rfl ?_
          refine r_iconst dX_law_1059 ?_
          refine r_iadd dX_law_1060 ?_
          refine r_sld dX_law_1061 (by omega) (by omega) (by omega) ?_
          refine r_cVI (cM_greet w_1052 (zsc xs (i + 1)) (by omega)) qM_greet rfl kw_833 rfl rfl dX_law_1062 (st0 := [zI (zsc xs (i + 1)), zR 33]) (st := []) rfl ⟨Nat.le_of_ble_eq_true rfl, Nat.le_of_ble_eq_true rfl⟩ ⟨Nat.le_of_ble_eq_true rfl, Nat.le_of_ble_eq_true rfl⟩ (Nat.le_of_ble_eq_true rfl) (fun a_1062 w_1062 h_1062 ok_1062 => ?_)
          have hRb : zRel w_1062 w_1062 := k_greet hR hOl ok_1052 h_1052 h_1062
          refine r_pop dX_law_1065 ?_
          refine r_goto 1151 dX_law_1066 (by decide) ?_
          refine r_iinc (ls' := [(3, zI (i + 7)), (0, zR 52), (1, zR 0), (2, zR 33)]) 3 0 dX_law_1151 rfl (by decide) rfl ?_
          refine r_goto 18 dX_law_1154 (by decide) ?_
          exact ih_18 (i + 7) w_1062 (by omega) (by omega) hRb (by omega)
        · refine r_tableIn 1069 dX_law_33 ⟨by omega, by omega⟩ (by omega) (by omega) (by rw [c_33] <;> rfl) (by decide) ?_
          refine r_aload_n 1 2 dX_law_1069 rfl rfl ?_
          refine r_aload_n 0 1 dX_law_1070 rfl rfl ?_
          refine r_iload_n 3 0 dX_law_1071 rfl rfl ?_
          refine r_iconst dX_law_1072 ?_
          refine r_iadd dX_law_1073 ?_
          refine r_sld dX_law_1074 (by omega) (by omega) (by omega) ?_
          refine r_aload_n 0 1 dX_law_1075 rfl rfl ?_
          refine r_iload_n 3 0 dX_law_1076 rfl rfl ?_
          refine r_iconst dX_law_1077 ?_
          refine r_iadd dX_law_1078 ?_
          refine r_sld dX_law_1079 (by omega) (by omega) (by omega) ?_
          refine r_cVI (cC_as wl (zsc xs (i + 1)) (zsc xs (i + 2)) (by omega) (by omega)) qC_as rfl kw_483 rfl rfl dX_law_1080 (st0 := [zI (zsc xs (i + 2)), zI (zsc xs (i + 1)), zR 0]) (st := []) rfl ⟨Nat.le_of_ble_eq_true rfl, Nat.le_of_ble_eq_true rfl⟩ ⟨Nat.le_of_ble_eq_true rfl, Nat.le_of_ble_eq_true rfl⟩ (Nat.le_of_ble_eq_true rfl) (fun a_1080 w_1080 h_1080 ok_1080 => ?_)
          refine r_pop dX_law_1083 ?_
          refine r_aload_n 2 3 dX_law_1084 rfl rfl ?_
          refine r_aload_n 0 1 dX_law_1085 rfl rfl ?_
          refine r_iload_n 3 0 dX_law_1086 rfl rfl ?_
          refine r_iconst dX_law_1087 ?_
          refine r_iadd dX_law_1088 ?_
          refine r_sld dX_law_1089 (by omega) (by omega) (by omega) ?_
          refine r_aload_n 0 1 dX_law_1090 rfl rfl ?_
          refine r_iload_n 3 0 dX_law_1091 rfl rfl ?_
          refine r_iconst dX_law_1092 ?_
          refine r_iadd dX_law_1093 ?_
          refine r_sld dX_law_1094 (by omega) (by omega) (by omega) ?_
          refine r_cVI (cM_as w_1080 (zsc xs (i + 1)) (zsc xs (i + 2)) (by omega) (by omega)) qM_as rfl kw_837 rfl rfl dX_law_1095 (st0 := [zI (zsc xs (i + 2)), zI (zsc xs (i + 1)), zR 33]) (st := []) rfl ⟨Nat.le_of_ble_eq_true rfl, Nat.le_of_ble_eq_true rfl⟩ ⟨Nat.le_of_ble_eq_true rfl, Nat.le_of_ble_eq_true rfl⟩ (Nat.le_of_ble_eq_true rfl) (fun a_1095 w_1095 h_1095 ok_1095 => ?_)
          have hRb : zRel w_1095 w_1095 := k_as hR hOl ok_1080 h_1080 h_1095
          refine r_pop dX_law_1098 ?_
          refine r_goto 1151 dX_law_1099 (by decide) ?_
          refine r_iinc (ls' := [(3, zI (i + 7)), (0, zR 52), (1, zR 0), (2, zR 33)]) 3 0 dX_law_1151 rfl (by decide) rfl ?_
          refine r_goto 18 dX_law_1154 (by decide) ?_
          exact ih_18 (i + 7) w_1095 (by omega) (by omega) hRb (by omega)
        · refine r_tableIn 1102 dX_law_33 ⟨by omega, by omega⟩ (by omega) (by omega) (by rw [c_33] <;> rfl) (by decide) ?_
          refine r_aload_n 1 2 dX_law_1102 rfl rfl ?_
          refine r_cVI (cC_trace wl) qC_trace rfl kw_487 rfl rfl dX_law_1103 (st0 := [zR 0]) (st := []) rfl ⟨Nat.le_of_ble_eq_true rfl, Nat.le_of_ble_eq_true rfl⟩ ⟨Nat.le_of_ble_eq_true rfl, Nat.le_of_ble_eq_true rfl⟩ (Nat.le_of_ble_eq_true rfl) (fun a_1103 w_1103 h_1103 ok_1103 => ?_)
          obtain ⟨rfl, h_1103⟩ := h_1103
          refine r_pop dX_law_1106 ?_
          refine r_aload_n 2 3 dX_law_1107 rfl rfl ?_
          refine r_cVI (cM_trace wl) qM_trace rfl kw_841 rfl rfl dX_law_1108 (st0 := [zR 33]) (st := []) rfl ⟨Nat.le_of_ble_eq_true rfl, Nat.le_of_ble_eq_true rfl⟩ ⟨Nat.le_of_ble_eq_true rfl, Nat.le_of_ble_eq_true rfl⟩ (Nat.le_of_ble_eq_true rfl) (fun a_1108 w_1108 h_1108 ok_1108 => ?_)
          obtain ⟨rfl, h_1108⟩ := h_1108
          have hRb : zRel wl wl := k_trace hR hOl ok_1103 ⟨rfl, h_1103⟩ ⟨rfl, h_1108⟩
          refine r_pop dX_law_1111 ?_
          refine r_goto 1151 dX_law_1112 (by decide) ?_
          refine r_iinc (ls' := [(3, zI (i + 7)), (0, zR 52), (1, zR 0), (2, zR 33)]) 3 0 dX_law_1151 rfl (by decide) rfl ?_
          refine r_goto 18 dX_law_1154 (by decide) ?_
          exact ih_18 (i + 7) wl (by omega) (by omega) hRb (by omega)
        · refine r_tableIn 1115 dX_law_33 ⟨by omega, by omega⟩ (by omega) (by omega) (by rw [c_33] <;> rfl) (by decide) ?_
          refine r_aload_n 1 2 dX_law_1115 rfl rfl ?_
          refine r_cVI (cC_fault wl) qC_fault rfl kw_491 rfl rfl dX_law_1116 (st0 := [zR 0]) (st := []) rfl ⟨Nat.le_of_ble_eq_true rfl, Nat.le_of_ble_eq_true rfl⟩ ⟨Nat.le_of_ble_eq_true rfl, Nat.le_of_ble_eq_true rfl⟩ (Nat.le_of_ble_eq_true rfl) (fun a_1116 w_1116 h_1116 ok_1116 => ?_)
          obtain ⟨rfl, h_1116⟩ := h_1116
          refine r_pop dX_law_1119 ?_
          refine r_aload_n 2 3 dX_law_1120 rfl rfl ?_
          refine r_cVI (cM_fault wl) qM_fault rfl kw_845 rfl rfl dX_law_1121 (st0 := [zR 33]) (st := []) rfl ⟨Nat.le_of_ble_eq_true rfl, Nat.le_of_ble_eq_true rfl⟩ ⟨Nat.le_of_ble_eq_true rfl, Nat.le_of_ble_eq_true rfl⟩ (Nat.le_of_ble_eq_true rfl) (fun a_1121 w_1121 h_1121 ok_1121 => ?_)
          obtain ⟨rfl, h_1121⟩ := h_1121
          have hRb : zRel wl wl := k_fault hR hOl ok_1116 ⟨rfl, h_1116⟩ ⟨rfl, h_1121⟩
          refine r_pop dX_law_1124 ?_
          refine r_goto 1151 dX_law_1125 (by decide) ?_
          refine r_iinc (ls' := [(3, zI (i + 7)), (0, zR 52), (1, zR 0), (2, zR 33)]) 3 0 dX_law_1151 rfl (by decide) rfl ?_
          refine r_goto 18 dX_law_1154 (by decide) ?_
          exact ih_18 (i + 7) wl (by omega) (by omega) hRb (by omega)
        · refine r_tableIn 1128 dX_law_33 ⟨by omega, by omega⟩ (by omega) (by omega) (by rw [c_33] <;> rfl) (by decide) ?_
          refine r_aload_n 1 2 dX_law_1128 rfl rfl ?_
          refine r_aload_n 0 1 dX_law_1129 rfl rfl ?_
          refine r_iload_n 3 0 dX_law_1130 rfl rfl ?_
          refine r_iconst dX_law_1131 ?_
          refine r_iadd dX_law_1132 ?_
          refine r_sld dX_law_1133 (by omega) (by omega) (by omega) ?_
          refine r_cVI (cC_many wl (zsc xs (i + 1)) (by omega)) qC_many rfl kw_495 rfl rfl dX_law_1134 (st0 := [zI (zsc xs (i + 1)), zR 0]) (st := []) rfl ⟨Nat.le_of_ble_eq_true rfl, Nat.le_of_ble_eq_true rfl⟩ ⟨Nat.le_of_ble_eq_true rfl, Nat.le_of_ble_eq_true rfl⟩ (Nat.le_of_ble_eq_true rfl) (fun a_1134 w_1134 h_1134 ok_1134 => ?_)
          obtain ⟨rfl, h_1134⟩ := h_1134
          refine r_aload_n 2 3 dX_law_1137 rfl rfl ?_
          refine r_aload_n 0 1 dX_law_1138 rfl rfl ?_
          refine r_iload_n 3 0 dX_law_1139 rfl rfl ?_
          refine r_iconst dX_law_1140 ?_
          refine r_iadd dX_law_1141 ?_
          refine r_sld dX_law_1142 (by omega) (by omega) (by omega) ?_
          refine r_cVI (cM_many wl (zsc xs (i + 1)) (by omega)) qM_many rfl kw_849 rfl rfl dX_law_1143 (st0 := [zI (zsc xs (i + 1)), zR 33, zI a_1134]) (st := [zI a_1134]) rfl ⟨Nat.le_of_ble_eq_true rfl, Nat.le_of_ble_eq_true rfl⟩ ⟨Nat.le_of_ble_eq_true rfl, Nat.le_of_ble_eq_true rfl⟩ (Nat.le_of_ble_eq_true rfl) (fun a_1143 w_1143 h_1143 ok_1143 => ?_)
          obtain ⟨rfl, h_1143⟩ := h_1143
          have hab : a_1134 = a_1143 := a_many hR hOl ok_1134 ⟨rfl, h_1134⟩ ⟨rfl, h_1143⟩
          have hRb : zRel wl wl := k_many hR hOl ok_1134 ⟨rfl, h_1134⟩ ⟨rfl, h_1143⟩
          refine r_eqI 1151 hab dX_law_1146 (by decide) ?_
          refine r_iinc (ls' := [(3, zI (i + 7)), (0, zR 52), (1, zR 0), (2, zR 33)]) 3 0 dX_law_1151 rfl (by decide) rfl ?_
          refine r_goto 18 dX_law_1154 (by decide) ?_
          exact ih_18 (i + 7) wl (by omega) (by omega) hRb (by omega)
        · refine r_tableOut 1151 dX_law_33 ⟨by omega, by omega⟩ (by omega) (by decide) ?_
          refine r_iinc (ls' := [(3, zI (i + 7)), (0, zR 52), (1, zR 0), (2, zR 33)]) 3 0 dX_law_1151 rfl (by decide) rfl ?_
          refine r_goto 18 dX_law_1154 (by decide) ?_
          exact ih_18 (i + 7) wl (by omega) (by omega) hRb (by omega)
        · refine r_tableOut 1151 dX_law_33 ⟨by omega, by omega⟩ (by omega) (by decide) ?_
          refine r_iinc (ls' := [(3, zI (i + 7)), (0, zR 52), (1, zR 0), (2, zR 33)]) 3 0 dX_law_1151 rfl (by decide) rfl ?_
          refine r_goto 18 dX_law_1154 (by decide) ?_
          exact ih_18 (i + 7) wl (by omega) (by omega) hRb (by omega)
  exact L_18 449 0 w (by omega) (by omega) hR (by omega)
