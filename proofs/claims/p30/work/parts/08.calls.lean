/-! calls by what they answer; which method is called how -/
section ZX
variable {M : zK} {Z : zZ} {pc : Nat} {ls ls' : List (Nat × zV)} {st : List zV} {w : zW} {b0 : Nat}
theorem r_cVI {M' : zK} {d idx n : Nat} {as st0 : List zV} {P : Int → zW → Prop} {ci : Nat} {fs : List Bool} {T : u_T} {N : Nat} (hC : zC M' d (zR b0 :: as) w (zrI P)) (hq : zCalV M' n) (hn : as.length = n) (hl : Cond.methodLink M.1.cls idx M'.1 ∈ zWs) (hs : zS b0 = .inr (ci, fs)) (hcl : zCl[ci]? = some (M'.1.cls, T, N)) (hd : decode M.2.1 pc = .ok (.invokevirtual idx, 3)) (hst : st0 = as.reverse ++ zR b0 :: st) (hroom : d + 1 ≤ Z.1.frames ∧ 8 + (M'.2.2.1 + 11) + 40 * d ≤ Z.1.locals) (hce : Z.2.1 ≤ Z.1.cells ∧ Z.2.2.1 ≤ Z.1.slots) (hcat : zsz st ≤ 8) (kk : ∀ (a : Int) (w' : zW), P a w' → zOk w' → zM M Z (pc + 3) ls (zI a :: st) w') : zM M Z pc ls st0 w :=
  r_callV hC hq hn hl hs hcl hd hst hroom hce hcat (fun r w' h h2 => by
    obtain ⟨a, rfl, h3⟩ := h
    exact kk a w' h3 h2)
theorem r_cSI {M' : zK} {d idx n : Nat} {as st0 : List zV} {P : Int → zW → Prop} (hC : zC M' d as w (zrI P)) (hq : zCalS M' n) (hn : as.length = n) (hl : Cond.methodLink M.1.cls idx M'.1 ∈ zWs) (hd : decode M.2.1 pc = .ok (.invokestatic idx, 3)) (hst : st0 = as.reverse ++ st) (hroom : d + 1 ≤ Z.1.frames ∧ 8 + (M'.2.2.1 + 11) + 40 * d ≤ Z.1.locals) (hce : Z.2.1 ≤ Z.1.cells ∧ Z.2.2.1 ≤ Z.1.slots) (hcat : zsz st ≤ 8) (kk : ∀ (a : Int) (w' : zW), P a w' → zOk w' → zM M Z (pc + 3) ls (zI a :: st) w') : zM M Z pc ls st0 w :=
  r_callS hC hq hn hl hd hst hroom hce hcat (fun r w' h h2 => by
    obtain ⟨a, rfl, h3⟩ := h
    exact kk a w' h3 h2)
theorem r_cVJ {M' : zK} {d idx n : Nat} {as st0 : List zV} {P : Int → zW → Prop} {ci : Nat} {fs : List Bool} {T : u_T} {N : Nat} (hC : zC M' d (zR b0 :: as) w (zrJ P)) (hq : zCalV M' n) (hn : as.length = n) (hl : Cond.methodLink M.1.cls idx M'.1 ∈ zWs) (hs : zS b0 = .inr (ci, fs)) (hcl : zCl[ci]? = some (M'.1.cls, T, N)) (hd : decode M.2.1 pc = .ok (.invokevirtual idx, 3)) (hst : st0 = as.reverse ++ zR b0 :: st) (hroom : d + 1 ≤ Z.1.frames ∧ 8 + (M'.2.2.1 + 11) + 40 * d ≤ Z.1.locals) (hce : Z.2.1 ≤ Z.1.cells ∧ Z.2.2.1 ≤ Z.1.slots) (hcat : zsz st ≤ 8) (kk : ∀ (a : Int) (w' : zW), P a w' → zOk w' → zM M Z (pc + 3) ls (zJ a :: st) w') : zM M Z pc ls st0 w :=
  r_callV hC hq hn hl hs hcl hd hst hroom hce hcat (fun r w' h h2 => by
    obtain ⟨a, rfl, h3⟩ := h
    exact kk a w' h3 h2)
theorem r_cSJ {M' : zK} {d idx n : Nat} {as st0 : List zV} {P : Int → zW → Prop} (hC : zC M' d as w (zrJ P)) (hq : zCalS M' n) (hn : as.length = n) (hl : Cond.methodLink M.1.cls idx M'.1 ∈ zWs) (hd : decode M.2.1 pc = .ok (.invokestatic idx, 3)) (hst : st0 = as.reverse ++ st) (hroom : d + 1 ≤ Z.1.frames ∧ 8 + (M'.2.2.1 + 11) + 40 * d ≤ Z.1.locals) (hce : Z.2.1 ≤ Z.1.cells ∧ Z.2.2.1 ≤ Z.1.slots) (hcat : zsz st ≤ 8) (kk : ∀ (a : Int) (w' : zW), P a w' → zOk w' → zM M Z (pc + 3) ls (zJ a :: st) w') : zM M Z pc ls st0 w :=
  r_callS hC hq hn hl hd hst hroom hce hcat (fun r w' h h2 => by
    obtain ⟨a, rfl, h3⟩ := h
    exact kk a w' h3 h2)
theorem r_cVV {M' : zK} {d idx n : Nat} {as st0 : List zV} {P : zW → Prop} {ci : Nat} {fs : List Bool} {T : u_T} {N : Nat} (hC : zC M' d (zR b0 :: as) w (zrV P)) (hq : zCalV M' n) (hn : as.length = n) (hl : Cond.methodLink M.1.cls idx M'.1 ∈ zWs) (hs : zS b0 = .inr (ci, fs)) (hcl : zCl[ci]? = some (M'.1.cls, T, N)) (hd : decode M.2.1 pc = .ok (.invokevirtual idx, 3)) (hst : st0 = as.reverse ++ zR b0 :: st) (hroom : d + 1 ≤ Z.1.frames ∧ 8 + (M'.2.2.1 + 11) + 40 * d ≤ Z.1.locals) (hce : Z.2.1 ≤ Z.1.cells ∧ Z.2.2.1 ≤ Z.1.slots) (hcat : zsz st ≤ 8) (kk : ∀ (w' : zW), P w' → zOk w' → zM M Z (pc + 3) ls st w') : zM M Z pc ls st0 w :=
  r_callV hC hq hn hl hs hcl hd hst hroom hce hcat (fun r w' h h2 => by
    obtain ⟨rfl, h3⟩ := h
    exact kk w' h3 h2)
theorem r_cSV {M' : zK} {d idx n : Nat} {as st0 : List zV} {P : zW → Prop} (hC : zC M' d as w (zrV P)) (hq : zCalS M' n) (hn : as.length = n) (hl : Cond.methodLink M.1.cls idx M'.1 ∈ zWs) (hd : decode M.2.1 pc = .ok (.invokestatic idx, 3)) (hst : st0 = as.reverse ++ st) (hroom : d + 1 ≤ Z.1.frames ∧ 8 + (M'.2.2.1 + 11) + 40 * d ≤ Z.1.locals) (hce : Z.2.1 ≤ Z.1.cells ∧ Z.2.2.1 ≤ Z.1.slots) (hcat : zsz st ≤ 8) (kk : ∀ (w' : zW), P w' → zOk w' → zM M Z (pc + 3) ls st w') : zM M Z pc ls st0 w :=
  r_callS hC hq hn hl hd hst hroom hce hcat (fun r w' h h2 => by
    obtain ⟨rfl, h3⟩ := h
    exact kk w' h3 h2)
theorem r_cVIN {M' : zK} {d idx n : Nat} {as st0 : List zV} {host : String} {P : Int → zW → Prop} {ci : Nat} {fs : List Bool} {T : u_T} {N : Nat} (hC : zC M' d (zR b0 :: as) w (zrI P)) (hq : zCalV M' n) (hn : as.length = n) (hl : Cond.methodLinkNest M.1.cls idx M'.1 host ∈ zNs) (hs : zS b0 = .inr (ci, fs)) (hcl : zCl[ci]? = some (M'.1.cls, T, N)) (hd : decode M.2.1 pc = .ok (.invokevirtual idx, 3)) (hst : st0 = as.reverse ++ zR b0 :: st) (hroom : d + 1 ≤ Z.1.frames ∧ 8 + (M'.2.2.1 + 11) + 40 * d ≤ Z.1.locals) (hce : Z.2.1 ≤ Z.1.cells ∧ Z.2.2.1 ≤ Z.1.slots) (hcat : zsz st ≤ 8) (kk : ∀ (a : Int) (w' : zW), P a w' → zOk w' → zM M Z (pc + 3) ls (zI a :: st) w') : zM M Z pc ls st0 w :=
  r_callVN hC hq hn hl hs hcl hd hst hroom hce hcat (fun r w' h h2 => by
    obtain ⟨a, rfl, h3⟩ := h
    exact kk a w' h3 h2)
theorem r_cSIN {M' : zK} {d idx n : Nat} {as st0 : List zV} {host : String} {P : Int → zW → Prop} (hC : zC M' d as w (zrI P)) (hq : zCalS M' n) (hn : as.length = n) (hl : Cond.methodLinkNest M.1.cls idx M'.1 host ∈ zNs) (hd : decode M.2.1 pc = .ok (.invokestatic idx, 3)) (hst : st0 = as.reverse ++ st) (hroom : d + 1 ≤ Z.1.frames ∧ 8 + (M'.2.2.1 + 11) + 40 * d ≤ Z.1.locals) (hce : Z.2.1 ≤ Z.1.cells ∧ Z.2.2.1 ≤ Z.1.slots) (hcat : zsz st ≤ 8) (kk : ∀ (a : Int) (w' : zW), P a w' → zOk w' → zM M Z (pc + 3) ls (zI a :: st) w') : zM M Z pc ls st0 w :=
  r_callSN hC hq hn hl hd hst hroom hce hcat (fun r w' h h2 => by
    obtain ⟨a, rfl, h3⟩ := h
    exact kk a w' h3 h2)
theorem r_cVJN {M' : zK} {d idx n : Nat} {as st0 : List zV} {host : String} {P : Int → zW → Prop} {ci : Nat} {fs : List Bool} {T : u_T} {N : Nat} (hC : zC M' d (zR b0 :: as) w (zrJ P)) (hq : zCalV M' n) (hn : as.length = n) (hl : Cond.methodLinkNest M.1.cls idx M'.1 host ∈ zNs) (hs : zS b0 = .inr (ci, fs)) (hcl : zCl[ci]? = some (M'.1.cls, T, N)) (hd : decode M.2.1 pc = .ok (.invokevirtual idx, 3)) (hst : st0 = as.reverse ++ zR b0 :: st) (hroom : d + 1 ≤ Z.1.frames ∧ 8 + (M'.2.2.1 + 11) + 40 * d ≤ Z.1.locals) (hce : Z.2.1 ≤ Z.1.cells ∧ Z.2.2.1 ≤ Z.1.slots) (hcat : zsz st ≤ 8) (kk : ∀ (a : Int) (w' : zW), P a w' → zOk w' → zM M Z (pc + 3) ls (zJ a :: st) w') : zM M Z pc ls st0 w :=
  r_callVN hC hq hn hl hs hcl hd hst hroom hce hcat (fun r w' h h2 => by
    obtain ⟨a, rfl, h3⟩ := h
    exact kk a w' h3 h2)
theorem r_cSJN {M' : zK} {d idx n : Nat} {as st0 : List zV} {host : String} {P : Int → zW → Prop} (hC : zC M' d as w (zrJ P)) (hq : zCalS M' n) (hn : as.length = n) (hl : Cond.methodLinkNest M.1.cls idx M'.1 host ∈ zNs) (hd : decode M.2.1 pc = .ok (.invokestatic idx, 3)) (hst : st0 = as.reverse ++ st) (hroom : d + 1 ≤ Z.1.frames ∧ 8 + (M'.2.2.1 + 11) + 40 * d ≤ Z.1.locals) (hce : Z.2.1 ≤ Z.1.cells ∧ Z.2.2.1 ≤ Z.1.slots) (hcat : zsz st ≤ 8) (kk : ∀ (a : Int) (w' : zW), P a w' → zOk w' → zM M Z (pc + 3) ls (zJ a :: st) w') : zM M Z pc ls st0 w :=
  r_callSN hC hq hn hl hd hst hroom hce hcat (fun r w' h h2 => by
    obtain ⟨a, rfl, h3⟩ := h
    exact kk a w' h3 h2)
theorem r_cVVN {M' : zK} {d idx n : Nat} {as st0 : List zV} {host : String} {P : zW → Prop} {ci : Nat} {fs : List Bool} {T : u_T} {N : Nat} (hC : zC M' d (zR b0 :: as) w (zrV P)) (hq : zCalV M' n) (hn : as.length = n) (hl : Cond.methodLinkNest M.1.cls idx M'.1 host ∈ zNs) (hs : zS b0 = .inr (ci, fs)) (hcl : zCl[ci]? = some (M'.1.cls, T, N)) (hd : decode M.2.1 pc = .ok (.invokevirtual idx, 3)) (hst : st0 = as.reverse ++ zR b0 :: st) (hroom : d + 1 ≤ Z.1.frames ∧ 8 + (M'.2.2.1 + 11) + 40 * d ≤ Z.1.locals) (hce : Z.2.1 ≤ Z.1.cells ∧ Z.2.2.1 ≤ Z.1.slots) (hcat : zsz st ≤ 8) (kk : ∀ (w' : zW), P w' → zOk w' → zM M Z (pc + 3) ls st w') : zM M Z pc ls st0 w :=
  r_callVN hC hq hn hl hs hcl hd hst hroom hce hcat (fun r w' h h2 => by
    obtain ⟨rfl, h3⟩ := h
    exact kk w' h3 h2)
theorem r_cSVN {M' : zK} {d idx n : Nat} {as st0 : List zV} {host : String} {P : zW → Prop} (hC : zC M' d as w (zrV P)) (hq : zCalS M' n) (hn : as.length = n) (hl : Cond.methodLinkNest M.1.cls idx M'.1 host ∈ zNs) (hd : decode M.2.1 pc = .ok (.invokestatic idx, 3)) (hst : st0 = as.reverse ++ st) (hroom : d + 1 ≤ Z.1.frames ∧ 8 + (M'.2.2.1 + 11) + 40 * d ≤ Z.1.locals) (hce : Z.2.1 ≤ Z.1.cells ∧ Z.2.2.1 ≤ Z.1.slots) (hcat : zsz st ≤ 8) (kk : ∀ (w' : zW), P w' → zOk w' → zM M Z (pc + 3) ls st w') : zM M Z pc ls st0 w :=
  r_callSN hC hq hn hl hd hst hroom hce hcat (fun r w' h h2 => by
    obtain ⟨rfl, h3⟩ := h
    exact kk w' h3 h2)
end ZX
theorem qC_as : zCalV mC_as 2 := ⟨⟨kw_486, kw_1, by decide +kernel⟩, kw_484, kw_485⟩
theorem qC_ask : zCalV mC_ask 1 := ⟨⟨kw_342, kw_1, by decide +kernel⟩, kw_340, kw_341⟩
theorem qC_back : zCalV mC_back 1 := ⟨⟨kw_391, kw_1, by decide +kernel⟩, kw_389, kw_390⟩
theorem qC_cell : zCalV mC_cell 3 := ⟨⟨kw_451, kw_1, by decide +kernel⟩, kw_449, kw_450⟩
theorem qC_charms : zCalV mC_charms 1 := ⟨⟨kw_416, kw_1, by decide +kernel⟩, kw_414, kw_415⟩
theorem qC_commonDivisor : zCalS mC_commonDivisor 2 := ⟨⟨kw_424, kw_1, by decide +kernel⟩, kw_423⟩
theorem qC_copy : zCalV mC_copy 5 := ⟨⟨kw_455, kw_1, by decide +kernel⟩, kw_453, kw_454⟩
theorem qC_cut : zCalS mC_cut 2 := ⟨⟨kw_447, kw_1, by decide +kernel⟩, kw_446⟩
theorem qC_dull : zCalV mC_dull 1 := ⟨⟨kw_349, kw_1, by decide +kernel⟩, kw_347, kw_348⟩
theorem qC_fault : zCalV mC_fault 0 := ⟨⟨kw_494, kw_1, by decide +kernel⟩, kw_492, kw_493⟩
theorem qC_faulty : zCalV mC_faulty 1 := ⟨⟨kw_230, kw_1, by decide +kernel⟩, kw_229, ks_2⟩
theorem qC_fewest : zCalV mC_fewest 1 := ⟨⟨kw_353, kw_1, by decide +kernel⟩, kw_351, kw_352⟩
theorem qC_firstOf : zCalS mC_firstOf 1 := ⟨⟨kw_345, kw_1, by decide +kernel⟩, kw_344⟩
theorem qC_fitting : zCalV mC_fitting 3 := ⟨⟨kw_408, kw_1, by decide +kernel⟩, kw_407, ks_27⟩
theorem qC_greet : zCalV mC_greet 1 := ⟨⟨kw_482, kw_1, by decide +kernel⟩, kw_480, kw_481⟩
theorem qC_hotel : zCalV mC_hotel 4 := ⟨⟨kw_215, kw_1, by decide +kernel⟩, kw_213, kw_214⟩
theorem qC_isLane : zCalS mC_isLane 1 := ⟨⟨kw_222, kw_1, by decide +kernel⟩, kw_221⟩
theorem qC_isPairs : zCalS mC_isPairs 1 := ⟨⟨kw_316, kw_1, by decide +kernel⟩, kw_315⟩
theorem qC_isStars : zCalS mC_isStars 1 := ⟨⟨kw_304, kw_1, by decide +kernel⟩, kw_303⟩
theorem qC_kinds : zCalV mC_kinds 1 := ⟨⟨kw_404, kw_1, by decide +kernel⟩, kw_402, kw_403⟩
theorem qC_leave : zCalV mC_leave 1 := ⟨⟨kw_470, kw_1, by decide +kernel⟩, kw_469, ks_31⟩
theorem qC_limits : zCalV mC_limits 0 := ⟨⟨kw_395, kw_1, by decide +kernel⟩, kw_393, kw_394⟩
theorem qC_lose : zCalV mC_lose 1 := ⟨⟨kw_436, kw_1, by decide +kernel⟩, kw_434, kw_435⟩
theorem qC_many : zCalV mC_many 1 := ⟨⟨kw_498, kw_1, by decide +kernel⟩, kw_496, kw_497⟩
theorem qC_may : zCalV mC_may 5 := ⟨⟨kw_334, kw_1, by decide +kernel⟩, kw_332, kw_333⟩
theorem qC_odds : zCalV mC_odds 6 := ⟨⟨kw_420, kw_1, by decide +kernel⟩, kw_418, kw_419⟩
theorem qC_ofDoing : zCalV mC_ofDoing 2 := ⟨⟨kw_273, kw_1, by decide +kernel⟩, kw_271, kw_272⟩
theorem qC_ofGuest : zCalV mC_ofGuest 2 := ⟨⟨kw_265, kw_1, by decide +kernel⟩, kw_263, kw_264⟩
theorem qC_pleased : zCalV mC_pleased 2 := ⟨⟨kw_308, kw_1, by decide +kernel⟩, kw_306, kw_307⟩
theorem qC_put : zCalV mC_put 3 := ⟨⟨kw_440, kw_1, by decide +kernel⟩, kw_438, kw_439⟩
theorem qC_reading : zCalV mC_reading 3 := ⟨⟨kw_383, kw_1, by decide +kernel⟩, kw_381, kw_382⟩
theorem qC_refusedPairs : zCalV mC_refusedPairs 4 := ⟨⟨kw_320, kw_1, by decide +kernel⟩, kw_319, ks_16⟩
theorem qC_refusedSeason : zCalV mC_refusedSeason 5 := ⟨⟨kw_338, kw_1, by decide +kernel⟩, kw_337, ks_19⟩
theorem qC_season : zCalV mC_season 6 := ⟨⟨kw_313, kw_1, by decide +kernel⟩, kw_311, kw_312⟩
theorem qC_sheet : zCalV mC_sheet 3 := ⟨⟨kw_428, kw_1, by decide +kernel⟩, kw_426, kw_427⟩
theorem qC_stars : zCalV mC_stars 1 := ⟨⟨kw_301, kw_1, by decide +kernel⟩, kw_299, kw_300⟩
theorem qC_strict : zCalV mC_strict 1 := ⟨⟨kw_293, kw_1, by decide +kernel⟩, kw_291, kw_292⟩
theorem qC_tastes : zCalV mC_tastes 1 := ⟨⟨kw_412, kw_1, by decide +kernel⟩, kw_410, kw_411⟩
theorem qC_tell : zCalV mC_tell 1 := ⟨⟨kw_462, kw_1, by decide +kernel⟩, kw_460, kw_461⟩
theorem qC_tellAsCritic : zCalV mC_tellAsCritic 1 := ⟨⟨kw_474, kw_1, by decide +kernel⟩, kw_473, ks_32⟩
theorem qC_tellAsGuest : zCalV mC_tellAsGuest 1 := ⟨⟨kw_478, kw_1, by decide +kernel⟩, kw_477, ks_33⟩
theorem qC_tellAsPoet : zCalV mC_tellAsPoet 1 := ⟨⟨kw_466, kw_1, by decide +kernel⟩, kw_465, ks_30⟩
theorem qC_trace : zCalV mC_trace 0 := ⟨⟨kw_490, kw_1, by decide +kernel⟩, kw_488, kw_489⟩
theorem qH_isDoing : zCalV mH_isDoing 1 := ⟨⟨kw_277, kw_2, by decide +kernel⟩, kw_276, ks_11⟩
theorem qH_isGuest : zCalV mH_isGuest 1 := ⟨⟨kw_269, kw_2, by decide +kernel⟩, kw_268, ks_10⟩
theorem qH_isOpen : zCalV mH_isOpen 0 := ⟨⟨kw_297, kw_2, by decide +kernel⟩, kw_296, ks_15⟩
theorem qH_isWon : zCalV mH_isWon 2 := ⟨⟨kw_285, kw_2, by decide +kernel⟩, kw_284, ks_13⟩
theorem qH_kindOf : zCalS mH_kindOf 1 := ⟨⟨kw_261, kw_2, by decide +kernel⟩, kw_260⟩
theorem qH_open : zCalV mH_open 4 := ⟨⟨kw_258, kw_2, by decide +kernel⟩, kw_257, ks_9⟩
theorem qH_pleasure : zCalV mH_pleasure 2 := ⟨⟨kw_289, kw_2, by decide +kernel⟩, kw_288, ks_14⟩
theorem qH_wonBy : zCalV mH_wonBy 1 := ⟨⟨kw_281, kw_2, by decide +kernel⟩, kw_280, ks_12⟩
theorem qL_add : zCalV mL_add 3 := ⟨⟨kw_387, kw_7, by decide +kernel⟩, kw_386, ks_25⟩
theorem qL_isSo : zCalV mL_isSo 1 := ⟨⟨kw_399, kw_7, by decide +kernel⟩, kw_398, ks_26⟩
theorem qM_areSo : zCalV mM_areSo 0 := ⟨⟨kw_769, kw_8, by decide +kernel⟩, kw_768, ks_52⟩
theorem qM_as : zCalV mM_as 2 := ⟨⟨kw_840, kw_8, by decide +kernel⟩, kw_838, kw_839⟩
theorem qM_ask : zCalV mM_ask 1 := ⟨⟨kw_734, kw_8, by decide +kernel⟩, kw_732, kw_733⟩
theorem qM_back : zCalV mM_back 1 := ⟨⟨kw_761, kw_8, by decide +kernel⟩, kw_759, kw_760⟩
theorem qM_cell : zCalV mM_cell 3 := ⟨⟨kw_816, kw_8, by decide +kernel⟩, kw_814, kw_815⟩
theorem qM_cellsBarred : zCalV mM_cellsBarred 4 := ⟨⟨kw_639, kw_8, by decide +kernel⟩, kw_638, ks_35⟩
theorem qM_charms : zCalV mM_charms 1 := ⟨⟨kw_781, kw_8, by decide +kernel⟩, kw_779, kw_780⟩
theorem qM_codeAt : zCalV mM_codeAt 2 := ⟨⟨kw_654, kw_8, by decide +kernel⟩, kw_653, ks_38⟩
theorem qM_copy : zCalV mM_copy 5 := ⟨⟨kw_824, kw_8, by decide +kernel⟩, kw_822, kw_823⟩
theorem qM_doesLose : zCalV mM_doesLose 2 := ⟨⟨kw_690, kw_8, by decide +kernel⟩, kw_689, ks_45⟩
theorem qM_dull : zCalV mM_dull 1 := ⟨⟨kw_745, kw_8, by decide +kernel⟩, kw_743, kw_744⟩
theorem qM_endingWith : zCalV mM_endingWith 4 := ⟨⟨kw_730, kw_8, by decide +kernel⟩, kw_729, ks_49⟩
theorem qM_everybody : zCalV mM_everybody 0 := ⟨⟨kw_738, kw_8, by decide +kernel⟩, kw_737, ks_50⟩
theorem qM_failed : zCalV mM_failed 1 := ⟨⟨kw_643, kw_8, by decide +kernel⟩, kw_642, ks_36⟩
theorem qM_failedLong : zCalV mM_failedLong 1 := ⟨⟨kw_820, kw_8, by decide +kernel⟩, kw_819, ks_55⟩
theorem qM_fault : zCalV mM_fault 0 := ⟨⟨kw_848, kw_8, by decide +kernel⟩, kw_846, kw_847⟩
theorem qM_fewest : zCalV mM_fewest 1 := ⟨⟨kw_749, kw_8, by decide +kernel⟩, kw_747, kw_748⟩
theorem qM_figure : zCalV mM_figure 4 := ⟨⟨kw_658, kw_8, by decide +kernel⟩, kw_657, ks_39⟩
theorem qM_goSeason : zCalV mM_goSeason 3 := ⟨⟨kw_722, kw_8, by decide +kernel⟩, kw_721, ks_48⟩
theorem qM_greet : zCalV mM_greet 1 := ⟨⟨kw_836, kw_8, by decide +kernel⟩, kw_834, kw_835⟩
theorem qM_hotel : zCalV mM_hotel 4 := ⟨⟨kw_623, kw_8, by decide +kernel⟩, kw_621, kw_622⟩
theorem qM_in : zCalS mM_in 3 := ⟨⟨kw_630, kw_8, by decide +kernel⟩, kw_629⟩
theorem qM_isBeyond : zCalS mM_isBeyond 3 := ⟨⟨kw_646, kw_8, by decide +kernel⟩, kw_645⟩
theorem qM_isIn : zCalS mM_isIn 2 := ⟨⟨kw_741, kw_8, by decide +kernel⟩, kw_740⟩
theorem qM_kinds : zCalV mM_kinds 1 := ⟨⟨kw_773, kw_8, by decide +kernel⟩, kw_771, kw_772⟩
theorem qM_layRow : zCalV mM_layRow 1 := ⟨⟨kw_753, kw_8, by decide +kernel⟩, kw_752, ks_51⟩
theorem qM_limits : zCalV mM_limits 0 := ⟨⟨kw_765, kw_8, by decide +kernel⟩, kw_763, kw_764⟩
theorem qM_lose : zCalV mM_lose 1 := ⟨⟨kw_804, kw_8, by decide +kernel⟩, kw_802, kw_803⟩
theorem qM_losersOf : zCalV mM_losersOf 1 := ⟨⟨kw_686, kw_8, by decide +kernel⟩, kw_685, ks_44⟩
theorem qM_lost : zCalS mM_lost 0 := ⟨⟨kw_792, kw_8, by decide +kernel⟩, kw_791⟩
theorem qM_many : zCalV mM_many 1 := ⟨⟨kw_852, kw_8, by decide +kernel⟩, kw_850, kw_851⟩
theorem qM_may : zCalV mM_may 5 := ⟨⟨kw_726, kw_8, by decide +kernel⟩, kw_724, kw_725⟩
theorem qM_noCell : zCalV mM_noCell 2 := ⟨⟨kw_812, kw_8, by decide +kernel⟩, kw_811, ks_54⟩
theorem qM_noDoing : zCalV mM_noDoing 1 := ⟨⟨kw_682, kw_8, by decide +kernel⟩, kw_681, ks_43⟩
theorem qM_noGuest : zCalV mM_noGuest 1 := ⟨⟨kw_674, kw_8, by decide +kernel⟩, kw_673, ks_42⟩
theorem qM_noSheet : zCalS mM_noSheet 1 := ⟨⟨kw_626, kw_8, by decide +kernel⟩, kw_625⟩
theorem qM_odds : zCalV mM_odds 6 := ⟨⟨kw_785, kw_8, by decide +kernel⟩, kw_783, kw_784⟩
theorem qM_ofDoing : zCalV mM_ofDoing 2 := ⟨⟨kw_678, kw_8, by decide +kernel⟩, kw_676, kw_677⟩
theorem qM_ofGuest : zCalV mM_ofGuest 2 := ⟨⟨kw_670, kw_8, by decide +kernel⟩, kw_668, kw_669⟩
theorem qM_pairsBarred : zCalV mM_pairsBarred 4 := ⟨⟨kw_718, kw_8, by decide +kernel⟩, kw_717, ks_47⟩
theorem qM_pleased : zCalV mM_pleased 2 := ⟨⟨kw_708, kw_8, by decide +kernel⟩, kw_706, kw_707⟩
theorem qM_pleasedBy : zCalV mM_pleasedBy 2 := ⟨⟨kw_694, kw_8, by decide +kernel⟩, kw_693, ks_46⟩
theorem qM_put : zCalV mM_put 3 := ⟨⟨kw_808, kw_8, by decide +kernel⟩, kw_806, kw_807⟩
theorem qM_reading : zCalV mM_reading 3 := ⟨⟨kw_757, kw_8, by decide +kernel⟩, kw_755, kw_756⟩
theorem qM_readsDoing : zCalV mM_readsDoing 2 := ⟨⟨kw_662, kw_8, by decide +kernel⟩, kw_661, ks_40⟩
theorem qM_readsGuest : zCalV mM_readsGuest 2 := ⟨⟨kw_666, kw_8, by decide +kernel⟩, kw_665, ks_41⟩
theorem qM_readsHotel : zCalV mM_readsHotel 2 := ⟨⟨kw_650, kw_8, by decide +kernel⟩, kw_649, ks_37⟩
theorem qM_refused : zCalV mM_refused 1 := ⟨⟨kw_634, kw_8, by decide +kernel⟩, kw_633, ks_34⟩
theorem qM_refusedLong : zCalV mM_refusedLong 0 := ⟨⟨kw_789, kw_8, by decide +kernel⟩, kw_788, ks_53⟩
theorem qM_season : zCalV mM_season 6 := ⟨⟨kw_712, kw_8, by decide +kernel⟩, kw_710, kw_711⟩
theorem qM_share : zCalS mM_share 3 := ⟨⟨kw_796, kw_8, by decide +kernel⟩, kw_795⟩
theorem qM_sheet : zCalV mM_sheet 3 := ⟨⟨kw_800, kw_8, by decide +kernel⟩, kw_798, kw_799⟩
theorem qM_stars : zCalV mM_stars 1 := ⟨⟨kw_703, kw_8, by decide +kernel⟩, kw_701, kw_702⟩
theorem qM_strict : zCalV mM_strict 1 := ⟨⟨kw_698, kw_8, by decide +kernel⟩, kw_696, kw_697⟩
theorem qM_tastes : zCalV mM_tastes 1 := ⟨⟨kw_777, kw_8, by decide +kernel⟩, kw_775, kw_776⟩
theorem qM_tell : zCalV mM_tell 1 := ⟨⟨kw_828, kw_8, by decide +kernel⟩, kw_826, kw_827⟩
theorem qM_trace : zCalV mM_trace 0 := ⟨⟨kw_844, kw_8, by decide +kernel⟩, kw_842, kw_843⟩
theorem qM_traced : zCalV mM_traced 1 := ⟨⟨kw_832, kw_8, by decide +kernel⟩, kw_831, ks_56⟩
theorem qO_live : zCalV mO_live 5 := ⟨⟨kw_324, kw_5, by decide +kernel⟩, kw_323, ks_17⟩
theorem qO_pay : zCalV mO_pay 5 := ⟨⟨kw_328, kw_5, by decide +kernel⟩, kw_327, ks_18⟩
theorem qP_choose : zCalV mP_choose 1 := ⟨⟨kw_375, kw_6, by decide +kernel⟩, kw_374, ks_23⟩
theorem qP_firstBest : zCalV mP_firstBest 3 := ⟨⟨kw_379, kw_6, by decide +kernel⟩, kw_378, ks_24⟩
theorem qP_isMade : zCalV mP_isMade 1 := ⟨⟨kw_357, kw_6, by decide +kernel⟩, kw_356, ks_20⟩
theorem qP_leastOf : zCalV mP_leastOf 3 := ⟨⟨kw_361, kw_6, by decide +kernel⟩, kw_360, ks_21⟩
theorem qP_weight : zCalV mP_weight 4 := ⟨⟨kw_366, kw_6, by decide +kernel⟩, kw_365, ks_22⟩
theorem qS_faultAsRow : zCalV mS_faultAsRow 2 := ⟨⟨kw_226, kw_3, by decide +kernel⟩, kw_225, ks_1⟩
theorem qS_isCell : zCalV mS_isCell 2 := ⟨⟨kw_444, kw_3, by decide +kernel⟩, kw_443, ks_29⟩
theorem qS_isSheet : zCalV mS_isSheet 1 := ⟨⟨kw_219, kw_3, by decide +kernel⟩, kw_218, ks_0⟩
theorem qS_renew : zCalV mS_renew 3 := ⟨⟨kw_432, kw_3, by decide +kernel⟩, kw_431, ks_28⟩
theorem qS_spans : zCalV mS_spans 3 := ⟨⟨kw_234, kw_3, by decide +kernel⟩, kw_233, ks_3⟩
theorem qT_areDoings : zCalV mT_areDoings 0 := ⟨⟨kw_246, kw_4, by decide +kernel⟩, kw_245, ks_6⟩
theorem qT_areGuests : zCalV mT_areGuests 0 := ⟨⟨kw_250, kw_4, by decide +kernel⟩, kw_249, ks_7⟩
theorem qT_isLetter : zCalV mT_isLetter 0 := ⟨⟨kw_254, kw_4, by decide +kernel⟩, kw_253, ks_8⟩
theorem qT_isOne : zCalV mT_isOne 3 := ⟨⟨kw_238, kw_4, by decide +kernel⟩, kw_237, ks_4⟩
theorem qT_next : zCalV mT_next 2 := ⟨⟨kw_242, kw_4, by decide +kernel⟩, kw_241, ks_5⟩
theorem z_row (w : zW) {j : Int} (h0 : 0 ≤ j) (h1 : j < 4) : zrf w 12 j.toNat = 16 + j.toNat := by
  rcases (by omega : j = 0 ∨ j = 1 ∨ j = 2 ∨ j = 3) with rfl | rfl | rfl | rfl <;> rfl
theorem z_rowS {j : Int} (h0 : 0 ≤ j) (h1 : j < 4) : zS (16 + j.toNat) = .inl (0, 60) := by
  rcases (by omega : j = 0 ∨ j = 1 ∨ j = 2 ∨ j = 3) with rfl | rfl | rfl | rfl <;> rfl
theorem z_rowB {j : Int} (h0 : 0 ≤ j) (h1 : j < 4) (k : Int) : zB (16 + j.toNat) k = (-2147483648, 2147483647) := by
  rcases (by omega : j = 0 ∨ j = 1 ∨ j = 2 ∨ j = 3) with rfl | rfl | rfl | rfl <;> rfl
theorem z_least (w : zW) {j : Int} (h0 : 0 ≤ j) (h1 : j < 7) : zrf w 21 j.toNat = 22 + j.toNat := by
  rcases (by omega : j = 0 ∨ j = 1 ∨ j = 2 ∨ j = 3 ∨ j = 4 ∨ j = 5 ∨ j = 6) with rfl | rfl | rfl | rfl | rfl | rfl | rfl <;> rfl
theorem z_leastS {j : Int} (h0 : 0 ≤ j) (h1 : j < 7) : zS (22 + j.toNat) = .inl (0, 13) := by
  rcases (by omega : j = 0 ∨ j = 1 ∨ j = 2 ∨ j = 3 ∨ j = 4 ∨ j = 5 ∨ j = 6) with rfl | rfl | rfl | rfl | rfl | rfl | rfl <;> rfl
theorem z_leastB {j : Int} (h0 : 0 ≤ j) (h1 : j < 7) (k : Int) : zB (22 + j.toNat) k = (-1000, 1000000) := by
  rcases (by omega : j = 0 ∨ j = 1 ∨ j = 2 ∨ j = 3 ∨ j = 4 ∨ j = 5 ∨ j = 6) with rfl | rfl | rfl | rfl | rfl | rfl | rfl <;> rfl
