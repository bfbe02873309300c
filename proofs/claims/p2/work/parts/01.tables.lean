-- ===== PART A: goes FIRST, ahead of the names: the tables' words, and 'selects' of the private methods out of them =====
/-- a private method of a class that the tables say can be made, by its rows of tables_1 -/
def lw_okq (q : MethodName × Nat) : Prop := (q.1.cls ≠ "java/lang/invoke/MethodHandle" ∧ q.1.cls ≠ "java/lang/invoke/VarHandle") ∧ Cond.instantiable q.1.cls q.2 ∈ tables_1 ∧ Cond.privateMethod q.1 ∈ tables_1 ∧ Cond.instanceMethod q.1 ∈ tables_1
theorem lw_p0 : lw_okq (⟨"StarLess$Sheets", "isSheet", "(I)Z"⟩, 4) := ⟨⟨by decide +kernel, by decide +kernel⟩, List.mem_of_getElem? (i := 69) (by decide +kernel), List.mem_of_getElem? (i := 217) (by decide +kernel), List.mem_of_getElem? (i := 218) (by decide +kernel)⟩
theorem lw_p1 : lw_okq (⟨"StarLess$Sheets", "faultAsRow", "(II)I"⟩, 4) := ⟨⟨by decide +kernel, by decide +kernel⟩, List.mem_of_getElem? (i := 69) (by decide +kernel), List.mem_of_getElem? (i := 224) (by decide +kernel), List.mem_of_getElem? (i := 225) (by decide +kernel)⟩
theorem lw_p2 : lw_okq (⟨"StarLess", "faulty", "(I)I"⟩, 8) := ⟨⟨by decide +kernel, by decide +kernel⟩, List.mem_of_getElem? (i := 12) (by decide +kernel), List.mem_of_getElem? (i := 228) (by decide +kernel), List.mem_of_getElem? (i := 229) (by decide +kernel)⟩
theorem lw_p3 : lw_okq (⟨"StarLess$Sheets", "spans", "(III)Z"⟩, 4) := ⟨⟨by decide +kernel, by decide +kernel⟩, List.mem_of_getElem? (i := 69) (by decide +kernel), List.mem_of_getElem? (i := 232) (by decide +kernel), List.mem_of_getElem? (i := 233) (by decide +kernel)⟩
theorem lw_p4 : lw_okq (⟨"StarLess$Text", "isOne", "([III)Z"⟩, 6) := ⟨⟨by decide +kernel, by decide +kernel⟩, List.mem_of_getElem? (i := 94) (by decide +kernel), List.mem_of_getElem? (i := 236) (by decide +kernel), List.mem_of_getElem? (i := 237) (by decide +kernel)⟩
theorem lw_p5 : lw_okq (⟨"StarLess$Text", "next", "(II)Z"⟩, 6) := ⟨⟨by decide +kernel, by decide +kernel⟩, List.mem_of_getElem? (i := 94) (by decide +kernel), List.mem_of_getElem? (i := 240) (by decide +kernel), List.mem_of_getElem? (i := 241) (by decide +kernel)⟩
theorem lw_p6 : lw_okq (⟨"StarLess$Text", "areDoings", "()Z"⟩, 6) := ⟨⟨by decide +kernel, by decide +kernel⟩, List.mem_of_getElem? (i := 94) (by decide +kernel), List.mem_of_getElem? (i := 244) (by decide +kernel), List.mem_of_getElem? (i := 245) (by decide +kernel)⟩
theorem lw_p7 : lw_okq (⟨"StarLess$Text", "areGuests", "()Z"⟩, 6) := ⟨⟨by decide +kernel, by decide +kernel⟩, List.mem_of_getElem? (i := 94) (by decide +kernel), List.mem_of_getElem? (i := 248) (by decide +kernel), List.mem_of_getElem? (i := 249) (by decide +kernel)⟩
theorem lw_p8 : lw_okq (⟨"StarLess$Text", "isLetter", "()Z"⟩, 6) := ⟨⟨by decide +kernel, by decide +kernel⟩, List.mem_of_getElem? (i := 94) (by decide +kernel), List.mem_of_getElem? (i := 252) (by decide +kernel), List.mem_of_getElem? (i := 253) (by decide +kernel)⟩
theorem lw_p9 : lw_okq (⟨"StarLess$House", "open", "([IIII)V"⟩, 9) := ⟨⟨by decide +kernel, by decide +kernel⟩, List.mem_of_getElem? (i := 20) (by decide +kernel), List.mem_of_getElem? (i := 256) (by decide +kernel), List.mem_of_getElem? (i := 257) (by decide +kernel)⟩
theorem lw_p10 : lw_okq (⟨"StarLess$House", "isGuest", "(I)Z"⟩, 9) := ⟨⟨by decide +kernel, by decide +kernel⟩, List.mem_of_getElem? (i := 20) (by decide +kernel), List.mem_of_getElem? (i := 267) (by decide +kernel), List.mem_of_getElem? (i := 268) (by decide +kernel)⟩
theorem lw_p11 : lw_okq (⟨"StarLess$House", "isDoing", "(I)Z"⟩, 9) := ⟨⟨by decide +kernel, by decide +kernel⟩, List.mem_of_getElem? (i := 20) (by decide +kernel), List.mem_of_getElem? (i := 275) (by decide +kernel), List.mem_of_getElem? (i := 276) (by decide +kernel)⟩
theorem lw_p12 : lw_okq (⟨"StarLess$House", "wonBy", "(I)I"⟩, 9) := ⟨⟨by decide +kernel, by decide +kernel⟩, List.mem_of_getElem? (i := 20) (by decide +kernel), List.mem_of_getElem? (i := 279) (by decide +kernel), List.mem_of_getElem? (i := 280) (by decide +kernel)⟩
theorem lw_p13 : lw_okq (⟨"StarLess$House", "isWon", "(II)Z"⟩, 9) := ⟨⟨by decide +kernel, by decide +kernel⟩, List.mem_of_getElem? (i := 20) (by decide +kernel), List.mem_of_getElem? (i := 283) (by decide +kernel), List.mem_of_getElem? (i := 284) (by decide +kernel)⟩
theorem lw_p14 : lw_okq (⟨"StarLess$House", "pleasure", "(II)I"⟩, 9) := ⟨⟨by decide +kernel, by decide +kernel⟩, List.mem_of_getElem? (i := 20) (by decide +kernel), List.mem_of_getElem? (i := 287) (by decide +kernel), List.mem_of_getElem? (i := 288) (by decide +kernel)⟩
theorem lw_p15 : lw_okq (⟨"StarLess$House", "isOpen", "()Z"⟩, 9) := ⟨⟨by decide +kernel, by decide +kernel⟩, List.mem_of_getElem? (i := 20) (by decide +kernel), List.mem_of_getElem? (i := 295) (by decide +kernel), List.mem_of_getElem? (i := 296) (by decide +kernel)⟩
def lw_privs_1 : List (MethodName × Nat) := [(⟨"StarLess$Sheets", "isSheet", "(I)Z"⟩, 4), (⟨"StarLess$Sheets", "faultAsRow", "(II)I"⟩, 4), (⟨"StarLess", "faulty", "(I)I"⟩, 8), (⟨"StarLess$Sheets", "spans", "(III)Z"⟩, 4), (⟨"StarLess$Text", "isOne", "([III)Z"⟩, 6), (⟨"StarLess$Text", "next", "(II)Z"⟩, 6), (⟨"StarLess$Text", "areDoings", "()Z"⟩, 6), (⟨"StarLess$Text", "areGuests", "()Z"⟩, 6), (⟨"StarLess$Text", "isLetter", "()Z"⟩, 6), (⟨"StarLess$House", "open", "([IIII)V"⟩, 9), (⟨"StarLess$House", "isGuest", "(I)Z"⟩, 9), (⟨"StarLess$House", "isDoing", "(I)Z"⟩, 9), (⟨"StarLess$House", "wonBy", "(I)I"⟩, 9), (⟨"StarLess$House", "isWon", "(II)Z"⟩, 9), (⟨"StarLess$House", "pleasure", "(II)I"⟩, 9), (⟨"StarLess$House", "isOpen", "()Z"⟩, 9)]
theorem lw_r1 : ∀ q ∈ lw_privs_1, lw_okq q := List.forall_mem_cons.mpr ⟨lw_p0, List.forall_mem_cons.mpr ⟨lw_p1, List.forall_mem_cons.mpr ⟨lw_p2, List.forall_mem_cons.mpr ⟨lw_p3, List.forall_mem_cons.mpr ⟨lw_p4, List.forall_mem_cons.mpr ⟨lw_p5, List.forall_mem_cons.mpr ⟨lw_p6, List.forall_mem_cons.mpr ⟨lw_p7, List.forall_mem_cons.mpr ⟨lw_p8, List.forall_mem_cons.mpr ⟨lw_p9, List.forall_mem_cons.mpr ⟨lw_p10, List.forall_mem_cons.mpr ⟨lw_p11, List.forall_mem_cons.mpr ⟨lw_p12, List.forall_mem_cons.mpr ⟨lw_p13, List.forall_mem_cons.mpr ⟨lw_p14, List.forall_mem_cons.mpr ⟨lw_p15, fun _ h => absurd h List.not_mem_nil⟩⟩⟩⟩⟩⟩⟩⟩⟩⟩⟩⟩⟩⟩⟩⟩
theorem lw_p16 : lw_okq (⟨"StarLess", "refusedPairs", "(IIII)I"⟩, 8) := ⟨⟨by decide +kernel, by decide +kernel⟩, List.mem_of_getElem? (i := 12) (by decide +kernel), List.mem_of_getElem? (i := 318) (by decide +kernel), List.mem_of_getElem? (i := 319) (by decide +kernel)⟩
theorem lw_p17 : lw_okq (⟨"StarLess$Outcome", "live", "(LStarLess$House;[IIII)V"⟩, 5) := ⟨⟨by decide +kernel, by decide +kernel⟩, List.mem_of_getElem? (i := 122) (by decide +kernel), List.mem_of_getElem? (i := 322) (by decide +kernel), List.mem_of_getElem? (i := 323) (by decide +kernel)⟩
theorem lw_p18 : lw_okq (⟨"StarLess$Outcome", "pay", "(LStarLess$House;IIIZ)V"⟩, 5) := ⟨⟨by decide +kernel, by decide +kernel⟩, List.mem_of_getElem? (i := 122) (by decide +kernel), List.mem_of_getElem? (i := 326) (by decide +kernel), List.mem_of_getElem? (i := 327) (by decide +kernel)⟩
theorem lw_p19 : lw_okq (⟨"StarLess", "refusedSeason", "(IIIII)I"⟩, 8) := ⟨⟨by decide +kernel, by decide +kernel⟩, List.mem_of_getElem? (i := 12) (by decide +kernel), List.mem_of_getElem? (i := 336) (by decide +kernel), List.mem_of_getElem? (i := 337) (by decide +kernel)⟩
theorem lw_p20 : lw_okq (⟨"StarLess$Plan", "isMade", "(LStarLess$House;)Z"⟩, 3) := ⟨⟨by decide +kernel, by decide +kernel⟩, List.mem_of_getElem? (i := 149) (by decide +kernel), List.mem_of_getElem? (i := 355) (by decide +kernel), List.mem_of_getElem? (i := 356) (by decide +kernel)⟩
theorem lw_p21 : lw_okq (⟨"StarLess$Plan", "leastOf", "(LStarLess$House;II)I"⟩, 3) := ⟨⟨by decide +kernel, by decide +kernel⟩, List.mem_of_getElem? (i := 149) (by decide +kernel), List.mem_of_getElem? (i := 359) (by decide +kernel), List.mem_of_getElem? (i := 360) (by decide +kernel)⟩
theorem lw_p22 : lw_okq (⟨"StarLess$Plan", "weight", "(LStarLess$House;III)I"⟩, 3) := ⟨⟨by decide +kernel, by decide +kernel⟩, List.mem_of_getElem? (i := 149) (by decide +kernel), List.mem_of_getElem? (i := 364) (by decide +kernel), List.mem_of_getElem? (i := 365) (by decide +kernel)⟩
theorem lw_p23 : lw_okq (⟨"StarLess$Plan", "choose", "(LStarLess$House;)V"⟩, 3) := ⟨⟨by decide +kernel, by decide +kernel⟩, List.mem_of_getElem? (i := 149) (by decide +kernel), List.mem_of_getElem? (i := 373) (by decide +kernel), List.mem_of_getElem? (i := 374) (by decide +kernel)⟩
theorem lw_p24 : lw_okq (⟨"StarLess$Plan", "firstBest", "(LStarLess$House;II)I"⟩, 3) := ⟨⟨by decide +kernel, by decide +kernel⟩, List.mem_of_getElem? (i := 149) (by decide +kernel), List.mem_of_getElem? (i := 377) (by decide +kernel), List.mem_of_getElem? (i := 378) (by decide +kernel)⟩
theorem lw_p25 : lw_okq (⟨"StarLess$Log", "add", "(IIZ)I"⟩, 4) := ⟨⟨by decide +kernel, by decide +kernel⟩, List.mem_of_getElem? (i := 168) (by decide +kernel), List.mem_of_getElem? (i := 385) (by decide +kernel), List.mem_of_getElem? (i := 386) (by decide +kernel)⟩
theorem lw_p26 : lw_okq (⟨"StarLess$Log", "isSo", "(LStarLess$House;)Z"⟩, 4) := ⟨⟨by decide +kernel, by decide +kernel⟩, List.mem_of_getElem? (i := 168) (by decide +kernel), List.mem_of_getElem? (i := 397) (by decide +kernel), List.mem_of_getElem? (i := 398) (by decide +kernel)⟩
theorem lw_p27 : lw_okq (⟨"StarLess", "fitting", "([III)I"⟩, 8) := ⟨⟨by decide +kernel, by decide +kernel⟩, List.mem_of_getElem? (i := 12) (by decide +kernel), List.mem_of_getElem? (i := 406) (by decide +kernel), List.mem_of_getElem? (i := 407) (by decide +kernel)⟩
theorem lw_p28 : lw_okq (⟨"StarLess$Sheets", "renew", "(III)V"⟩, 4) := ⟨⟨by decide +kernel, by decide +kernel⟩, List.mem_of_getElem? (i := 69) (by decide +kernel), List.mem_of_getElem? (i := 430) (by decide +kernel), List.mem_of_getElem? (i := 431) (by decide +kernel)⟩
theorem lw_p29 : lw_okq (⟨"StarLess$Sheets", "isCell", "(II)Z"⟩, 4) := ⟨⟨by decide +kernel, by decide +kernel⟩, List.mem_of_getElem? (i := 69) (by decide +kernel), List.mem_of_getElem? (i := 442) (by decide +kernel), List.mem_of_getElem? (i := 443) (by decide +kernel)⟩
theorem lw_p30 : lw_okq (⟨"StarLess", "tellAsPoet", "(I)I"⟩, 8) := ⟨⟨by decide +kernel, by decide +kernel⟩, List.mem_of_getElem? (i := 12) (by decide +kernel), List.mem_of_getElem? (i := 464) (by decide +kernel), List.mem_of_getElem? (i := 465) (by decide +kernel)⟩
theorem lw_p31 : lw_okq (⟨"StarLess", "leave", "(I)V"⟩, 8) := ⟨⟨by decide +kernel, by decide +kernel⟩, List.mem_of_getElem? (i := 12) (by decide +kernel), List.mem_of_getElem? (i := 468) (by decide +kernel), List.mem_of_getElem? (i := 469) (by decide +kernel)⟩
def lw_privs_2 : List (MethodName × Nat) := [(⟨"StarLess", "refusedPairs", "(IIII)I"⟩, 8), (⟨"StarLess$Outcome", "live", "(LStarLess$House;[IIII)V"⟩, 5), (⟨"StarLess$Outcome", "pay", "(LStarLess$House;IIIZ)V"⟩, 5), (⟨"StarLess", "refusedSeason", "(IIIII)I"⟩, 8), (⟨"StarLess$Plan", "isMade", "(LStarLess$House;)Z"⟩, 3), (⟨"StarLess$Plan", "leastOf", "(LStarLess$House;II)I"⟩, 3), (⟨"StarLess$Plan", "weight", "(LStarLess$House;III)I"⟩, 3), (⟨"StarLess$Plan", "choose", "(LStarLess$House;)V"⟩, 3), (⟨"StarLess$Plan", "firstBest", "(LStarLess$House;II)I"⟩, 3), (⟨"StarLess$Log", "add", "(IIZ)I"⟩, 4), (⟨"StarLess$Log", "isSo", "(LStarLess$House;)Z"⟩, 4), (⟨"StarLess", "fitting", "([III)I"⟩, 8), (⟨"StarLess$Sheets", "renew", "(III)V"⟩, 4), (⟨"StarLess$Sheets", "isCell", "(II)Z"⟩, 4), (⟨"StarLess", "tellAsPoet", "(I)I"⟩, 8), (⟨"StarLess", "leave", "(I)V"⟩, 8)]
theorem lw_r2 : ∀ q ∈ lw_privs_2, lw_okq q := List.forall_mem_cons.mpr ⟨lw_p16, List.forall_mem_cons.mpr ⟨lw_p17, List.forall_mem_cons.mpr ⟨lw_p18, List.forall_mem_cons.mpr ⟨lw_p19, List.forall_mem_cons.mpr ⟨lw_p20, List.forall_mem_cons.mpr ⟨lw_p21, List.forall_mem_cons.mpr ⟨lw_p22, List.forall_mem_cons.mpr ⟨lw_p23, List.forall_mem_cons.mpr ⟨lw_p24, List.forall_mem_cons.mpr ⟨lw_p25, List.forall_mem_cons.mpr ⟨lw_p26, List.forall_mem_cons.mpr ⟨lw_p27, List.forall_mem_cons.mpr ⟨lw_p28, List.forall_mem_cons.mpr ⟨lw_p29, List.forall_mem_cons.mpr ⟨lw_p30, List.forall_mem_cons.mpr ⟨lw_p31, fun _ h => absurd h List.not_mem_nil⟩⟩⟩⟩⟩⟩⟩⟩⟩⟩⟩⟩⟩⟩⟩⟩
theorem lw_p32 : lw_okq (⟨"StarLess", "tellAsCritic", "(I)I"⟩, 8) := ⟨⟨by decide +kernel, by decide +kernel⟩, List.mem_of_getElem? (i := 12) (by decide +kernel), List.mem_of_getElem? (i := 472) (by decide +kernel), List.mem_of_getElem? (i := 473) (by decide +kernel)⟩
theorem lw_p33 : lw_okq (⟨"StarLess", "tellAsGuest", "(I)I"⟩, 8) := ⟨⟨by decide +kernel, by decide +kernel⟩, List.mem_of_getElem? (i := 12) (by decide +kernel), List.mem_of_getElem? (i := 476) (by decide +kernel), List.mem_of_getElem? (i := 477) (by decide +kernel)⟩
theorem lw_p34 : lw_okq (⟨"StarLessModel", "refused", "(I)I"⟩, 38) := ⟨⟨by decide +kernel, by decide +kernel⟩, List.mem_of_getElem? (i := 500) (by decide +kernel), List.mem_of_getElem? (i := 632) (by decide +kernel), List.mem_of_getElem? (i := 633) (by decide +kernel)⟩
theorem lw_p35 : lw_okq (⟨"StarLessModel", "cellsBarred", "(IIIJ)I"⟩, 38) := ⟨⟨by decide +kernel, by decide +kernel⟩, List.mem_of_getElem? (i := 500) (by decide +kernel), List.mem_of_getElem? (i := 637) (by decide +kernel), List.mem_of_getElem? (i := 638) (by decide +kernel)⟩
theorem lw_p36 : lw_okq (⟨"StarLessModel", "failed", "(I)I"⟩, 38) := ⟨⟨by decide +kernel, by decide +kernel⟩, List.mem_of_getElem? (i := 500) (by decide +kernel), List.mem_of_getElem? (i := 641) (by decide +kernel), List.mem_of_getElem? (i := 642) (by decide +kernel)⟩
theorem lw_p37 : lw_okq (⟨"StarLessModel", "readsHotel", "(II)Z"⟩, 38) := ⟨⟨by decide +kernel, by decide +kernel⟩, List.mem_of_getElem? (i := 500) (by decide +kernel), List.mem_of_getElem? (i := 648) (by decide +kernel), List.mem_of_getElem? (i := 649) (by decide +kernel)⟩
theorem lw_p38 : lw_okq (⟨"StarLessModel", "codeAt", "(II)I"⟩, 38) := ⟨⟨by decide +kernel, by decide +kernel⟩, List.mem_of_getElem? (i := 500) (by decide +kernel), List.mem_of_getElem? (i := 652) (by decide +kernel), List.mem_of_getElem? (i := 653) (by decide +kernel)⟩
theorem lw_p39 : lw_okq (⟨"StarLessModel", "figure", "(IIII)I"⟩, 38) := ⟨⟨by decide +kernel, by decide +kernel⟩, List.mem_of_getElem? (i := 500) (by decide +kernel), List.mem_of_getElem? (i := 656) (by decide +kernel), List.mem_of_getElem? (i := 657) (by decide +kernel)⟩
theorem lw_p40 : lw_okq (⟨"StarLessModel", "readsDoing", "(II)Z"⟩, 38) := ⟨⟨by decide +kernel, by decide +kernel⟩, List.mem_of_getElem? (i := 500) (by decide +kernel), List.mem_of_getElem? (i := 660) (by decide +kernel), List.mem_of_getElem? (i := 661) (by decide +kernel)⟩
theorem lw_p41 : lw_okq (⟨"StarLessModel", "readsGuest", "(II)Z"⟩, 38) := ⟨⟨by decide +kernel, by decide +kernel⟩, List.mem_of_getElem? (i := 500) (by decide +kernel), List.mem_of_getElem? (i := 664) (by decide +kernel), List.mem_of_getElem? (i := 665) (by decide +kernel)⟩
theorem lw_p42 : lw_okq (⟨"StarLessModel", "noGuest", "(I)Z"⟩, 38) := ⟨⟨by decide +kernel, by decide +kernel⟩, List.mem_of_getElem? (i := 500) (by decide +kernel), List.mem_of_getElem? (i := 672) (by decide +kernel), List.mem_of_getElem? (i := 673) (by decide +kernel)⟩
theorem lw_p43 : lw_okq (⟨"StarLessModel", "noDoing", "(I)Z"⟩, 38) := ⟨⟨by decide +kernel, by decide +kernel⟩, List.mem_of_getElem? (i := 500) (by decide +kernel), List.mem_of_getElem? (i := 680) (by decide +kernel), List.mem_of_getElem? (i := 681) (by decide +kernel)⟩
theorem lw_p44 : lw_okq (⟨"StarLessModel", "losersOf", "(I)I"⟩, 38) := ⟨⟨by decide +kernel, by decide +kernel⟩, List.mem_of_getElem? (i := 500) (by decide +kernel), List.mem_of_getElem? (i := 684) (by decide +kernel), List.mem_of_getElem? (i := 685) (by decide +kernel)⟩
theorem lw_p45 : lw_okq (⟨"StarLessModel", "doesLose", "(II)Z"⟩, 38) := ⟨⟨by decide +kernel, by decide +kernel⟩, List.mem_of_getElem? (i := 500) (by decide +kernel), List.mem_of_getElem? (i := 688) (by decide +kernel), List.mem_of_getElem? (i := 689) (by decide +kernel)⟩
theorem lw_p46 : lw_okq (⟨"StarLessModel", "pleasedBy", "(II)I"⟩, 38) := ⟨⟨by decide +kernel, by decide +kernel⟩, List.mem_of_getElem? (i := 500) (by decide +kernel), List.mem_of_getElem? (i := 692) (by decide +kernel), List.mem_of_getElem? (i := 693) (by decide +kernel)⟩
theorem lw_p47 : lw_okq (⟨"StarLessModel", "pairsBarred", "(IIII)I"⟩, 38) := ⟨⟨by decide +kernel, by decide +kernel⟩, List.mem_of_getElem? (i := 500) (by decide +kernel), List.mem_of_getElem? (i := 716) (by decide +kernel), List.mem_of_getElem? (i := 717) (by decide +kernel)⟩
def lw_privs_3 : List (MethodName × Nat) := [(⟨"StarLess", "tellAsCritic", "(I)I"⟩, 8), (⟨"StarLess", "tellAsGuest", "(I)I"⟩, 8), (⟨"StarLessModel", "refused", "(I)I"⟩, 38), (⟨"StarLessModel", "cellsBarred", "(IIIJ)I"⟩, 38), (⟨"StarLessModel", "failed", "(I)I"⟩, 38), (⟨"StarLessModel", "readsHotel", "(II)Z"⟩, 38), (⟨"StarLessModel", "codeAt", "(II)I"⟩, 38), (⟨"StarLessModel", "figure", "(IIII)I"⟩, 38), (⟨"StarLessModel", "readsDoing", "(II)Z"⟩, 38), (⟨"StarLessModel", "readsGuest", "(II)Z"⟩, 38), (⟨"StarLessModel", "noGuest", "(I)Z"⟩, 38), (⟨"StarLessModel", "noDoing", "(I)Z"⟩, 38), (⟨"StarLessModel", "losersOf", "(I)I"⟩, 38), (⟨"StarLessModel", "doesLose", "(II)Z"⟩, 38), (⟨"StarLessModel", "pleasedBy", "(II)I"⟩, 38), (⟨"StarLessModel", "pairsBarred", "(IIII)I"⟩, 38)]
theorem lw_r3 : ∀ q ∈ lw_privs_3, lw_okq q := List.forall_mem_cons.mpr ⟨lw_p32, List.forall_mem_cons.mpr ⟨lw_p33, List.forall_mem_cons.mpr ⟨lw_p34, List.forall_mem_cons.mpr ⟨lw_p35, List.forall_mem_cons.mpr ⟨lw_p36, List.forall_mem_cons.mpr ⟨lw_p37, List.forall_mem_cons.mpr ⟨lw_p38, List.forall_mem_cons.mpr ⟨lw_p39, List.forall_mem_cons.mpr ⟨lw_p40, List.forall_mem_cons.mpr ⟨lw_p41, List.forall_mem_cons.mpr ⟨lw_p42, List.forall_mem_cons.mpr ⟨lw_p43, List.forall_mem_cons.mpr ⟨lw_p44, List.forall_mem_cons.mpr ⟨lw_p45, List.forall_mem_cons.mpr ⟨lw_p46, List.forall_mem_cons.mpr ⟨lw_p47, fun _ h => absurd h List.not_mem_nil⟩⟩⟩⟩⟩⟩⟩⟩⟩⟩⟩⟩⟩⟩⟩⟩
theorem lw_p48 : lw_okq (⟨"StarLessModel", "goSeason", "(III)V"⟩, 38) := ⟨⟨by decide +kernel, by decide +kernel⟩, List.mem_of_getElem? (i := 500) (by decide +kernel), List.mem_of_getElem? (i := 720) (by decide +kernel), List.mem_of_getElem? (i := 721) (by decide +kernel)⟩
theorem lw_p49 : lw_okq (⟨"StarLessModel", "endingWith", "(IIII)I"⟩, 38) := ⟨⟨by decide +kernel, by decide +kernel⟩, List.mem_of_getElem? (i := 500) (by decide +kernel), List.mem_of_getElem? (i := 728) (by decide +kernel), List.mem_of_getElem? (i := 729) (by decide +kernel)⟩
theorem lw_p50 : lw_okq (⟨"StarLessModel", "everybody", "()I"⟩, 38) := ⟨⟨by decide +kernel, by decide +kernel⟩, List.mem_of_getElem? (i := 500) (by decide +kernel), List.mem_of_getElem? (i := 736) (by decide +kernel), List.mem_of_getElem? (i := 737) (by decide +kernel)⟩
theorem lw_p51 : lw_okq (⟨"StarLessModel", "layRow", "(I)V"⟩, 38) := ⟨⟨by decide +kernel, by decide +kernel⟩, List.mem_of_getElem? (i := 500) (by decide +kernel), List.mem_of_getElem? (i := 751) (by decide +kernel), List.mem_of_getElem? (i := 752) (by decide +kernel)⟩
theorem lw_p52 : lw_okq (⟨"StarLessModel", "areSo", "()Z"⟩, 38) := ⟨⟨by decide +kernel, by decide +kernel⟩, List.mem_of_getElem? (i := 500) (by decide +kernel), List.mem_of_getElem? (i := 767) (by decide +kernel), List.mem_of_getElem? (i := 768) (by decide +kernel)⟩
theorem lw_p53 : lw_okq (⟨"StarLessModel", "refusedLong", "()J"⟩, 38) := ⟨⟨by decide +kernel, by decide +kernel⟩, List.mem_of_getElem? (i := 500) (by decide +kernel), List.mem_of_getElem? (i := 787) (by decide +kernel), List.mem_of_getElem? (i := 788) (by decide +kernel)⟩
theorem lw_p54 : lw_okq (⟨"StarLessModel", "noCell", "(II)I"⟩, 38) := ⟨⟨by decide +kernel, by decide +kernel⟩, List.mem_of_getElem? (i := 500) (by decide +kernel), List.mem_of_getElem? (i := 810) (by decide +kernel), List.mem_of_getElem? (i := 811) (by decide +kernel)⟩
theorem lw_p55 : lw_okq (⟨"StarLessModel", "failedLong", "(I)J"⟩, 38) := ⟨⟨by decide +kernel, by decide +kernel⟩, List.mem_of_getElem? (i := 500) (by decide +kernel), List.mem_of_getElem? (i := 818) (by decide +kernel), List.mem_of_getElem? (i := 819) (by decide +kernel)⟩
theorem lw_p56 : lw_okq (⟨"StarLessModel", "traced", "(I)V"⟩, 38) := ⟨⟨by decide +kernel, by decide +kernel⟩, List.mem_of_getElem? (i := 500) (by decide +kernel), List.mem_of_getElem? (i := 830) (by decide +kernel), List.mem_of_getElem? (i := 831) (by decide +kernel)⟩
def lw_privs_4 : List (MethodName × Nat) := [(⟨"StarLessModel", "goSeason", "(III)V"⟩, 38), (⟨"StarLessModel", "endingWith", "(IIII)I"⟩, 38), (⟨"StarLessModel", "everybody", "()I"⟩, 38), (⟨"StarLessModel", "layRow", "(I)V"⟩, 38), (⟨"StarLessModel", "areSo", "()Z"⟩, 38), (⟨"StarLessModel", "refusedLong", "()J"⟩, 38), (⟨"StarLessModel", "noCell", "(II)I"⟩, 38), (⟨"StarLessModel", "failedLong", "(I)J"⟩, 38), (⟨"StarLessModel", "traced", "(I)V"⟩, 38)]
theorem lw_r4 : ∀ q ∈ lw_privs_4, lw_okq q := List.forall_mem_cons.mpr ⟨lw_p48, List.forall_mem_cons.mpr ⟨lw_p49, List.forall_mem_cons.mpr ⟨lw_p50, List.forall_mem_cons.mpr ⟨lw_p51, List.forall_mem_cons.mpr ⟨lw_p52, List.forall_mem_cons.mpr ⟨lw_p53, List.forall_mem_cons.mpr ⟨lw_p54, List.forall_mem_cons.mpr ⟨lw_p55, List.forall_mem_cons.mpr ⟨lw_p56, fun _ h => absurd h List.not_mem_nil⟩⟩⟩⟩⟩⟩⟩⟩⟩
def lw_privs : List (MethodName × Nat) := lw_privs_1 ++ (lw_privs_2 ++ (lw_privs_3 ++ (lw_privs_4)))
def lw_tbl : List Cond := k2_sels lw_privs ++ tables_1
theorem lw_privs_ok : ∀ q ∈ lw_privs, lw_okq q := by
  show ∀ q ∈ lw_privs_1 ++ (lw_privs_2 ++ (lw_privs_3 ++ (lw_privs_4))), lw_okq q
  exact List.forall_mem_append.mpr ⟨lw_r1, List.forall_mem_append.mpr ⟨lw_r2, List.forall_mem_append.mpr ⟨lw_r3, lw_r4⟩⟩⟩
/-- the words that any method may lean on, and the links of nest mates beside them -/
def zNest : Cond → Bool
  | .fieldLinkNest .. => true
  | .methodLinkNest .. => true
  | _ => false
def zWs : List Cond := lw_tbl.filter goodWord
def zNs : List Cond := tables_1.filter zNest
theorem kw_of {w : Cond} (n : Nat) (h : tables_1[n]? = some w) (g : goodWord w = true) : w ∈ zWs := List.mem_filter.mpr ⟨List.mem_append_right _ (List.mem_of_getElem? h), g⟩
theorem kn_of {w : Cond} (n : Nat) (h : tables_1[n]? = some w) (g : zNest w = true) : w ∈ zNs := List.mem_filter.mpr ⟨List.mem_of_getElem? h, g⟩
theorem ks_of {q : MethodName × Nat} (n : Nat) (h : lw_privs[n]? = some q) (g : goodWord (Cond.selects q.1.cls q.1 q.1) = true) : Cond.selects q.1.cls q.1 q.1 ∈ zWs := List.mem_filter.mpr ⟨List.mem_append_left _ (List.mem_map.mpr ⟨q, List.mem_of_getElem? h, rfl⟩), g⟩
theorem kw_0 : (Jvm.Cond.initialized "StarLessLaw") ∈ zWs := kw_of 0 (by decide +kernel) rfl
theorem kw_1 : (Jvm.Cond.initialized "StarLess") ∈ zWs := kw_of 1 (by decide +kernel) rfl
theorem kw_2 : (Jvm.Cond.initialized "StarLess$House") ∈ zWs := kw_of 2 (by decide +kernel) rfl
theorem kw_3 : (Jvm.Cond.initialized "StarLess$Sheets") ∈ zWs := kw_of 3 (by decide +kernel) rfl
theorem kw_4 : (Jvm.Cond.initialized "StarLess$Text") ∈ zWs := kw_of 4 (by decide +kernel) rfl
theorem kw_5 : (Jvm.Cond.initialized "StarLess$Outcome") ∈ zWs := kw_of 5 (by decide +kernel) rfl
theorem kw_6 : (Jvm.Cond.initialized "StarLess$Plan") ∈ zWs := kw_of 6 (by decide +kernel) rfl
theorem kw_7 : (Jvm.Cond.initialized "StarLess$Log") ∈ zWs := kw_of 7 (by decide +kernel) rfl
theorem kw_8 : (Jvm.Cond.initialized "StarLessModel") ∈ zWs := kw_of 8 (by decide +kernel) rfl
theorem kw_9 : (Jvm.Cond.initialized "java/lang/Math") ∈ zWs := kw_of 9 (by decide +kernel) rfl
theorem kw_10 : (Jvm.Cond.initialized "java/lang/System") ∈ zWs := kw_of 10 (by decide +kernel) rfl
theorem kw_11 : (Jvm.Cond.classLink "StarLessLaw" (7 : Nat) "StarLess") ∈ zWs := kw_of 11 (by decide +kernel) rfl
theorem kw_12 : (Jvm.Cond.instantiable "StarLess" (8 : Nat)) ∈ zWs := kw_of 12 (by decide +kernel) rfl
theorem kw_13 : (Jvm.Cond.methodLink "StarLessLaw" (9 : Nat) ({ cls := "StarLess", name := "<init>", desc := "()V" } : Jvm.MethodName)) ∈ zWs := kw_of 13 (by decide +kernel) rfl
theorem kw_14 : (Jvm.Cond.instanceMethod ({ cls := "StarLess", name := "<init>", desc := "()V" } : Jvm.MethodName)) ∈ zWs := kw_of 14 (by decide +kernel) rfl
theorem kw_15 : (Jvm.Cond.code ({ cls := "StarLess", name := "<init>", desc := "()V" } : Jvm.MethodName) prog_1_method_1_code (1 : Nat) (Option.none : Option Jvm.ClassFile.FieldType)) ∈ zWs := kw_of 15 (by decide +kernel) rfl
theorem kw_16 : (Jvm.Cond.methodLink "StarLess" (3 : Nat) ({ cls := "java/lang/Object", name := "<init>", desc := "()V" } : Jvm.MethodName)) ∈ zWs := kw_of 16 (by decide +kernel) rfl
theorem kw_17 : (Jvm.Cond.instanceMethod ({ cls := "java/lang/Object", name := "<init>", desc := "()V" } : Jvm.MethodName)) ∈ zWs := kw_of 17 (by decide +kernel) rfl
theorem kw_18 : (Jvm.Cond.code ({ cls := "java/lang/Object", name := "<init>", desc := "()V" } : Jvm.MethodName) object_method_1_code (1 : Nat) (Option.none : Option Jvm.ClassFile.FieldType)) ∈ zWs := kw_of 18 (by decide +kernel) rfl
theorem kw_19 : (Jvm.Cond.classLink "StarLess" (9 : Nat) "StarLess$House") ∈ zWs := kw_of 19 (by decide +kernel) rfl
theorem kw_20 : (Jvm.Cond.instantiable "StarLess$House" (9 : Nat)) ∈ zWs := kw_of 20 (by decide +kernel) rfl
theorem kw_21 : (Jvm.Cond.methodLinkNest "StarLess" (11 : Nat) ({ cls := "StarLess$House", name := "<init>", desc := "()V" } : Jvm.MethodName) "StarLess") ∈ zNs := kn_of 21 (by decide +kernel) rfl
theorem kw_22 : (Jvm.Cond.instanceMethod ({ cls := "StarLess$House", name := "<init>", desc := "()V" } : Jvm.MethodName)) ∈ zWs := kw_of 22 (by decide +kernel) rfl
theorem kw_23 : (Jvm.Cond.code ({ cls := "StarLess$House", name := "<init>", desc := "()V" } : Jvm.MethodName) prog_2_method_1_code (1 : Nat) (Option.none : Option Jvm.ClassFile.FieldType)) ∈ zWs := kw_of 23 (by decide +kernel) rfl
theorem kw_24 : (Jvm.Cond.methodLink "StarLess$House" (3 : Nat) ({ cls := "java/lang/Object", name := "<init>", desc := "()V" } : Jvm.MethodName)) ∈ zWs := kw_of 24 (by decide +kernel) rfl
theorem kw_25 : (Jvm.Cond.fieldLinkNest "StarLess$Outcome" (9 : Nat) "StarLess$House" "stars" "I" "StarLess") ∈ zNs := kn_of 25 (by decide +kernel) rfl
theorem kw_26 : (Jvm.Cond.fieldLink "StarLess$House" (34 : Nat) "StarLess$House" "stars" "I") ∈ zWs := kw_of 26 (by decide +kernel) rfl
theorem kw_27 : (Jvm.Cond.fieldLinkNest "StarLess" (136 : Nat) "StarLess$House" "stars" "I" "StarLess") ∈ zNs := kn_of 27 (by decide +kernel) rfl
theorem kw_28 : (Jvm.Cond.fieldLink "StarLess$House" (37 : Nat) "StarLess$House" "strict" "I") ∈ zWs := kw_of 28 (by decide +kernel) rfl
theorem kw_29 : (Jvm.Cond.fieldLinkNest "StarLess" (130 : Nat) "StarLess$House" "strict" "I" "StarLess") ∈ zNs := kn_of 29 (by decide +kernel) rfl
theorem kw_30 : (Jvm.Cond.fieldLinkNest "StarLess$Plan" (35 : Nat) "StarLess$House" "doings" "I" "StarLess") ∈ zNs := kn_of 30 (by decide +kernel) rfl
theorem kw_31 : (Jvm.Cond.fieldLink "StarLess$House" (31 : Nat) "StarLess$House" "doings" "I") ∈ zWs := kw_of 31 (by decide +kernel) rfl
theorem kw_32 : (Jvm.Cond.fieldLinkNest "StarLess" (169 : Nat) "StarLess$House" "doings" "I" "StarLess") ∈ zNs := kn_of 32 (by decide +kernel) rfl
theorem kw_33 : (Jvm.Cond.fieldLink "StarLess$House" (27 : Nat) "StarLess$House" "guests" "I") ∈ zWs := kw_of 33 (by decide +kernel) rfl
theorem kw_34 : (Jvm.Cond.fieldLinkNest "StarLess$Plan" (20 : Nat) "StarLess$House" "guests" "I" "StarLess") ∈ zNs := kn_of 34 (by decide +kernel) rfl
theorem kw_35 : (Jvm.Cond.fieldLinkNest "StarLess" (100 : Nat) "StarLess$House" "guests" "I" "StarLess") ∈ zNs := kn_of 35 (by decide +kernel) rfl
theorem kw_36 : (Jvm.Cond.fieldLink "StarLess$House" (9 : Nat) "StarLess$House" "charm" "[I") ∈ zWs := kw_of 36 (by decide +kernel) rfl
theorem kw_37 : (Jvm.Cond.fieldLinkNest "StarLess" (117 : Nat) "StarLess$House" "charm" "[I" "StarLess") ∈ zNs := kn_of 37 (by decide +kernel) rfl
theorem kw_38 : (Jvm.Cond.fieldLink "StarLess$House" (15 : Nat) "StarLess$House" "cost" "[I") ∈ zWs := kw_of 38 (by decide +kernel) rfl
theorem kw_39 : (Jvm.Cond.fieldLinkNest "StarLess$Outcome" (30 : Nat) "StarLess$House" "cost" "[I" "StarLess") ∈ zNs := kn_of 39 (by decide +kernel) rfl
theorem kw_40 : (Jvm.Cond.fieldLinkNest "StarLess$Plan" (48 : Nat) "StarLess$House" "cost" "[I" "StarLess") ∈ zNs := kn_of 40 (by decide +kernel) rfl
theorem kw_41 : (Jvm.Cond.fieldLinkNest "StarLess" (120 : Nat) "StarLess$House" "cost" "[I" "StarLess") ∈ zNs := kn_of 41 (by decide +kernel) rfl
theorem kw_42 : (Jvm.Cond.fieldLink "StarLess$House" (18 : Nat) "StarLess$House" "kind" "[I") ∈ zWs := kw_of 42 (by decide +kernel) rfl
theorem kw_43 : (Jvm.Cond.fieldLinkNest "StarLess" (104 : Nat) "StarLess$House" "kind" "[I" "StarLess") ∈ zNs := kn_of 43 (by decide +kernel) rfl
theorem kw_44 : (Jvm.Cond.fieldLink "StarLess$House" (21 : Nat) "StarLess$House" "taste" "[I") ∈ zWs := kw_of 44 (by decide +kernel) rfl
theorem kw_45 : (Jvm.Cond.fieldLinkNest "StarLess" (108 : Nat) "StarLess$House" "taste" "[I" "StarLess") ∈ zNs := kn_of 45 (by decide +kernel) rfl
theorem kw_46 : (Jvm.Cond.fieldLink "StarLess$House" (24 : Nat) "StarLess$House" "love" "[I") ∈ zWs := kw_of 46 (by decide +kernel) rfl
theorem kw_47 : (Jvm.Cond.fieldLinkNest "StarLess" (111 : Nat) "StarLess$House" "love" "[I" "StarLess") ∈ zNs := kn_of 47 (by decide +kernel) rfl
theorem kw_67 : (Jvm.Cond.arrayClass Jvm.ClassFile.FieldType.int) ∈ zWs := kw_of 67 (by decide +kernel) rfl
theorem kw_68 : (Jvm.Cond.classLink "StarLess" (18 : Nat) "StarLess$Sheets") ∈ zWs := kw_of 68 (by decide +kernel) rfl
theorem kw_69 : (Jvm.Cond.instantiable "StarLess$Sheets" (4 : Nat)) ∈ zWs := kw_of 69 (by decide +kernel) rfl
theorem kw_70 : (Jvm.Cond.methodLinkNest "StarLess" (20 : Nat) ({ cls := "StarLess$Sheets", name := "<init>", desc := "()V" } : Jvm.MethodName) "StarLess") ∈ zNs := kn_of 70 (by decide +kernel) rfl
theorem kw_71 : (Jvm.Cond.instanceMethod ({ cls := "StarLess$Sheets", name := "<init>", desc := "()V" } : Jvm.MethodName)) ∈ zWs := kw_of 71 (by decide +kernel) rfl
theorem kw_72 : (Jvm.Cond.code ({ cls := "StarLess$Sheets", name := "<init>", desc := "()V" } : Jvm.MethodName) prog_6_method_1_code (1 : Nat) (Option.none : Option Jvm.ClassFile.FieldType)) ∈ zWs := kw_of 72 (by decide +kernel) rfl
theorem kw_73 : (Jvm.Cond.methodLink "StarLess$Sheets" (3 : Nat) ({ cls := "java/lang/Object", name := "<init>", desc := "()V" } : Jvm.MethodName)) ∈ zWs := kw_of 73 (by decide +kernel) rfl
theorem kw_74 : (Jvm.Cond.classLink "StarLess$Sheets" (9 : Nat) "[[I") ∈ zWs := kw_of 74 (by decide +kernel) rfl
theorem kw_76 : (Jvm.Cond.fieldLink "StarLess$Sheets" (11 : Nat) "StarLess$Sheets" "rows" "[[I") ∈ zWs := kw_of 76 (by decide +kernel) rfl
theorem kw_77 : (Jvm.Cond.fieldLinkNest "StarLess" (76 : Nat) "StarLess$Sheets" "rows" "[[I" "StarLess") ∈ zNs := kn_of 77 (by decide +kernel) rfl
theorem kw_78 : (Jvm.Cond.fieldLink "StarLess$Sheets" (16 : Nat) "StarLess$Sheets" "there" "[Z") ∈ zWs := kw_of 78 (by decide +kernel) rfl
theorem kw_79 : (Jvm.Cond.fieldLinkNest "StarLess" (203 : Nat) "StarLess$Sheets" "there" "[Z" "StarLess") ∈ zNs := kn_of 79 (by decide +kernel) rfl
theorem kw_80 : (Jvm.Cond.fieldLink "StarLess$Sheets" (20 : Nat) "StarLess$Sheets" "lanes" "[I") ∈ zWs := kw_of 80 (by decide +kernel) rfl
theorem kw_81 : (Jvm.Cond.fieldLinkNest "StarLess" (211 : Nat) "StarLess$Sheets" "lanes" "[I" "StarLess") ∈ zNs := kn_of 81 (by decide +kernel) rfl
theorem kw_82 : (Jvm.Cond.fieldLink "StarLess$Sheets" (24 : Nat) "StarLess$Sheets" "lengths" "[I") ∈ zWs := kw_of 82 (by decide +kernel) rfl
theorem kw_92 : (Jvm.Cond.arrayClass Jvm.ClassFile.FieldType.boolean) ∈ zWs := kw_of 92 (by decide +kernel) rfl
theorem kw_93 : (Jvm.Cond.classLink "StarLess" (25 : Nat) "StarLess$Text") ∈ zWs := kw_of 93 (by decide +kernel) rfl
theorem kw_94 : (Jvm.Cond.instantiable "StarLess$Text" (6 : Nat)) ∈ zWs := kw_of 94 (by decide +kernel) rfl
theorem kw_95 : (Jvm.Cond.methodLinkNest "StarLess" (27 : Nat) ({ cls := "StarLess$Text", name := "<init>", desc := "()V" } : Jvm.MethodName) "StarLess") ∈ zNs := kn_of 95 (by decide +kernel) rfl
theorem kw_96 : (Jvm.Cond.instanceMethod ({ cls := "StarLess$Text", name := "<init>", desc := "()V" } : Jvm.MethodName)) ∈ zWs := kw_of 96 (by decide +kernel) rfl
theorem kw_97 : (Jvm.Cond.code ({ cls := "StarLess$Text", name := "<init>", desc := "()V" } : Jvm.MethodName) prog_7_method_1_code (1 : Nat) (Option.none : Option Jvm.ClassFile.FieldType)) ∈ zWs := kw_of 97 (by decide +kernel) rfl
theorem kw_98 : (Jvm.Cond.methodLink "StarLess$Text" (3 : Nat) ({ cls := "java/lang/Object", name := "<init>", desc := "()V" } : Jvm.MethodName)) ∈ zWs := kw_of 98 (by decide +kernel) rfl
theorem kw_99 : (Jvm.Cond.fieldLink "StarLess$Text" (9 : Nat) "StarLess$Text" "row" "[I") ∈ zWs := kw_of 99 (by decide +kernel) rfl
theorem kw_100 : (Jvm.Cond.fieldLink "StarLess$Text" (15 : Nat) "StarLess$Text" "from" "I") ∈ zWs := kw_of 100 (by decide +kernel) rfl
theorem kw_101 : (Jvm.Cond.fieldLink "StarLess$Text" (19 : Nat) "StarLess$Text" "length" "I") ∈ zWs := kw_of 101 (by decide +kernel) rfl
theorem kw_102 : (Jvm.Cond.fieldLink "StarLess$Text" (22 : Nat) "StarLess$Text" "place" "I") ∈ zWs := kw_of 102 (by decide +kernel) rfl
theorem kw_103 : (Jvm.Cond.fieldLinkNest "StarLess" (84 : Nat) "StarLess$Text" "place" "I" "StarLess") ∈ zNs := kn_of 103 (by decide +kernel) rfl
theorem kw_104 : (Jvm.Cond.fieldLinkNest "StarLess" (87 : Nat) "StarLess$Text" "doings" "I" "StarLess") ∈ zNs := kn_of 104 (by decide +kernel) rfl
theorem kw_105 : (Jvm.Cond.fieldLink "StarLess$Text" (36 : Nat) "StarLess$Text" "doings" "I") ∈ zWs := kw_of 105 (by decide +kernel) rfl
theorem kw_106 : (Jvm.Cond.fieldLinkNest "StarLess" (90 : Nat) "StarLess$Text" "guests" "I" "StarLess") ∈ zNs := kn_of 106 (by decide +kernel) rfl
theorem kw_107 : (Jvm.Cond.fieldLink "StarLess$Text" (39 : Nat) "StarLess$Text" "guests" "I") ∈ zWs := kw_of 107 (by decide +kernel) rfl
theorem kw_121 : (Jvm.Cond.classLink "StarLess" (32 : Nat) "StarLess$Outcome") ∈ zWs := kw_of 121 (by decide +kernel) rfl
theorem kw_122 : (Jvm.Cond.instantiable "StarLess$Outcome" (5 : Nat)) ∈ zWs := kw_of 122 (by decide +kernel) rfl
theorem kw_123 : (Jvm.Cond.methodLinkNest "StarLess" (34 : Nat) ({ cls := "StarLess$Outcome", name := "<init>", desc := "()V" } : Jvm.MethodName) "StarLess") ∈ zNs := kn_of 123 (by decide +kernel) rfl
theorem kw_124 : (Jvm.Cond.instanceMethod ({ cls := "StarLess$Outcome", name := "<init>", desc := "()V" } : Jvm.MethodName)) ∈ zWs := kw_of 124 (by decide +kernel) rfl
theorem kw_125 : (Jvm.Cond.code ({ cls := "StarLess$Outcome", name := "<init>", desc := "()V" } : Jvm.MethodName) prog_4_method_1_code (1 : Nat) (Option.none : Option Jvm.ClassFile.FieldType)) ∈ zWs := kw_of 125 (by decide +kernel) rfl
theorem kw_126 : (Jvm.Cond.methodLink "StarLess$Outcome" (3 : Nat) ({ cls := "java/lang/Object", name := "<init>", desc := "()V" } : Jvm.MethodName)) ∈ zWs := kw_of 126 (by decide +kernel) rfl
theorem kw_127 : (Jvm.Cond.fieldLink "StarLess$Outcome" (15 : Nat) "StarLess$Outcome" "stars" "I") ∈ zWs := kw_of 127 (by decide +kernel) rfl
theorem kw_128 : (Jvm.Cond.fieldLinkNest "StarLess" (156 : Nat) "StarLess$Outcome" "stars" "I" "StarLess") ∈ zNs := kn_of 128 (by decide +kernel) rfl
theorem kw_129 : (Jvm.Cond.fieldLink "StarLess$Outcome" (18 : Nat) "StarLess$Outcome" "wrong" "I") ∈ zWs := kw_of 129 (by decide +kernel) rfl
theorem kw_130 : (Jvm.Cond.fieldLinkNest "StarLess" (153 : Nat) "StarLess$Outcome" "wrong" "I" "StarLess") ∈ zNs := kn_of 130 (by decide +kernel) rfl
theorem kw_131 : (Jvm.Cond.fieldLink "StarLess$Outcome" (21 : Nat) "StarLess$Outcome" "empty" "I") ∈ zWs := kw_of 131 (by decide +kernel) rfl
theorem kw_132 : (Jvm.Cond.fieldLinkNest "StarLess" (157 : Nat) "StarLess$Outcome" "empty" "I" "StarLess") ∈ zNs := kn_of 132 (by decide +kernel) rfl
theorem kw_133 : (Jvm.Cond.fieldLink "StarLess$Outcome" (24 : Nat) "StarLess$Outcome" "left" "I") ∈ zWs := kw_of 133 (by decide +kernel) rfl
theorem kw_134 : (Jvm.Cond.fieldLinkNest "StarLess" (160 : Nat) "StarLess$Outcome" "left" "I" "StarLess") ∈ zNs := kn_of 134 (by decide +kernel) rfl
theorem kw_135 : (Jvm.Cond.fieldLink "StarLess$Outcome" (27 : Nat) "StarLess$Outcome" "pleasure" "I") ∈ zWs := kw_of 135 (by decide +kernel) rfl
theorem kw_136 : (Jvm.Cond.fieldLinkNest "StarLess" (163 : Nat) "StarLess$Outcome" "pleasure" "I" "StarLess") ∈ zNs := kn_of 136 (by decide +kernel) rfl
theorem kw_148 : (Jvm.Cond.classLink "StarLess" (39 : Nat) "StarLess$Plan") ∈ zWs := kw_of 148 (by decide +kernel) rfl
theorem kw_149 : (Jvm.Cond.instantiable "StarLess$Plan" (3 : Nat)) ∈ zWs := kw_of 149 (by decide +kernel) rfl
theorem kw_150 : (Jvm.Cond.methodLinkNest "StarLess" (41 : Nat) ({ cls := "StarLess$Plan", name := "<init>", desc := "()V" } : Jvm.MethodName) "StarLess") ∈ zNs := kn_of 150 (by decide +kernel) rfl
theorem kw_151 : (Jvm.Cond.instanceMethod ({ cls := "StarLess$Plan", name := "<init>", desc := "()V" } : Jvm.MethodName)) ∈ zWs := kw_of 151 (by decide +kernel) rfl
theorem kw_152 : (Jvm.Cond.code ({ cls := "StarLess$Plan", name := "<init>", desc := "()V" } : Jvm.MethodName) prog_5_method_1_code (1 : Nat) (Option.none : Option Jvm.ClassFile.FieldType)) ∈ zWs := kw_of 152 (by decide +kernel) rfl
theorem kw_153 : (Jvm.Cond.methodLink "StarLess$Plan" (3 : Nat) ({ cls := "java/lang/Object", name := "<init>", desc := "()V" } : Jvm.MethodName)) ∈ zWs := kw_of 153 (by decide +kernel) rfl
theorem kw_154 : (Jvm.Cond.classLink "StarLess$Plan" (9 : Nat) "[[I") ∈ zWs := kw_of 154 (by decide +kernel) rfl
theorem kw_155 : (Jvm.Cond.fieldLink "StarLess$Plan" (11 : Nat) "StarLess$Plan" "least" "[[I") ∈ zWs := kw_of 155 (by decide +kernel) rfl
theorem kw_156 : (Jvm.Cond.fieldLink "StarLess$Plan" (16 : Nat) "StarLess$Plan" "doing" "[I") ∈ zWs := kw_of 156 (by decide +kernel) rfl
theorem kw_157 : (Jvm.Cond.fieldLinkNest "StarLess" (180 : Nat) "StarLess$Plan" "doing" "[I" "StarLess") ∈ zNs := kn_of 157 (by decide +kernel) rfl
theorem kw_158 : (Jvm.Cond.fieldLink "StarLess$Plan" (58 : Nat) "StarLess$Plan" "won" "I") ∈ zWs := kw_of 158 (by decide +kernel) rfl
theorem kw_159 : (Jvm.Cond.fieldLinkNest "StarLess" (177 : Nat) "StarLess$Plan" "won" "I" "StarLess") ∈ zNs := kn_of 159 (by decide +kernel) rfl
theorem kw_167 : (Jvm.Cond.classLink "StarLess" (46 : Nat) "StarLess$Log") ∈ zWs := kw_of 167 (by decide +kernel) rfl
theorem kw_168 : (Jvm.Cond.instantiable "StarLess$Log" (4 : Nat)) ∈ zWs := kw_of 168 (by decide +kernel) rfl
theorem kw_169 : (Jvm.Cond.methodLinkNest "StarLess" (48 : Nat) ({ cls := "StarLess$Log", name := "<init>", desc := "()V" } : Jvm.MethodName) "StarLess") ∈ zNs := kn_of 169 (by decide +kernel) rfl
theorem kw_170 : (Jvm.Cond.instanceMethod ({ cls := "StarLess$Log", name := "<init>", desc := "()V" } : Jvm.MethodName)) ∈ zWs := kw_of 170 (by decide +kernel) rfl
theorem kw_171 : (Jvm.Cond.code ({ cls := "StarLess$Log", name := "<init>", desc := "()V" } : Jvm.MethodName) prog_3_method_1_code (1 : Nat) (Option.none : Option Jvm.ClassFile.FieldType)) ∈ zWs := kw_of 171 (by decide +kernel) rfl
theorem kw_172 : (Jvm.Cond.methodLink "StarLess$Log" (3 : Nat) ({ cls := "java/lang/Object", name := "<init>", desc := "()V" } : Jvm.MethodName)) ∈ zWs := kw_of 172 (by decide +kernel) rfl
theorem kw_173 : (Jvm.Cond.fieldLink "StarLess$Log" (9 : Nat) "StarLess$Log" "guest" "[I") ∈ zWs := kw_of 173 (by decide +kernel) rfl
theorem kw_174 : (Jvm.Cond.fieldLink "StarLess$Log" (15 : Nat) "StarLess$Log" "doing" "[I") ∈ zWs := kw_of 174 (by decide +kernel) rfl
theorem kw_175 : (Jvm.Cond.fieldLink "StarLess$Log" (18 : Nat) "StarLess$Log" "lost" "[Z") ∈ zWs := kw_of 175 (by decide +kernel) rfl
theorem kw_176 : (Jvm.Cond.fieldLink "StarLess$Log" (22 : Nat) "StarLess$Log" "size" "I") ∈ zWs := kw_of 176 (by decide +kernel) rfl
theorem kw_177 : (Jvm.Cond.fieldLinkNest "StarLess" (97 : Nat) "StarLess$Log" "size" "I" "StarLess") ∈ zNs := kn_of 177 (by decide +kernel) rfl
theorem kw_187 : (Jvm.Cond.fieldLink "StarLess" (12 : Nat) "StarLess" "house" "LStarLess$House;") ∈ zWs := kw_of 187 (by decide +kernel) rfl
theorem kw_188 : (Jvm.Cond.fieldLink "StarLess" (21 : Nat) "StarLess" "sheets" "LStarLess$Sheets;") ∈ zWs := kw_of 188 (by decide +kernel) rfl
theorem kw_189 : (Jvm.Cond.fieldLink "StarLess" (28 : Nat) "StarLess" "text" "LStarLess$Text;") ∈ zWs := kw_of 189 (by decide +kernel) rfl
theorem kw_190 : (Jvm.Cond.fieldLink "StarLess" (35 : Nat) "StarLess" "outcome" "LStarLess$Outcome;") ∈ zWs := kw_of 190 (by decide +kernel) rfl
theorem kw_191 : (Jvm.Cond.fieldLink "StarLess" (42 : Nat) "StarLess" "plan" "LStarLess$Plan;") ∈ zWs := kw_of 191 (by decide +kernel) rfl
theorem kw_192 : (Jvm.Cond.fieldLink "StarLess" (49 : Nat) "StarLess" "log" "LStarLess$Log;") ∈ zWs := kw_of 192 (by decide +kernel) rfl
theorem kw_193 : (Jvm.Cond.fieldLink "StarLess" (236 : Nat) "StarLess" "traced" "I") ∈ zWs := kw_of 193 (by decide +kernel) rfl
theorem kw_194 : (Jvm.Cond.fieldLink "StarLess" (53 : Nat) "StarLess" "latestFault" "I") ∈ zWs := kw_of 194 (by decide +kernel) rfl
theorem kw_212 : (Jvm.Cond.methodLink "StarLessLaw" (13 : Nat) ({ cls := "StarLess", name := "hotel", desc := "(IIII)I" } : Jvm.MethodName)) ∈ zWs := kw_of 212 (by decide +kernel) rfl
theorem kw_213 : (Jvm.Cond.instanceMethod ({ cls := "StarLess", name := "hotel", desc := "(IIII)I" } : Jvm.MethodName)) ∈ zWs := kw_of 213 (by decide +kernel) rfl
theorem kw_214 : (Jvm.Cond.selects "StarLess" ({ cls := "StarLess", name := "hotel", desc := "(IIII)I" } : Jvm.MethodName) ({ cls := "StarLess", name := "hotel", desc := "(IIII)I" } : Jvm.MethodName)) ∈ zWs := kw_of 214 (by decide +kernel) rfl
theorem kw_215 : (Jvm.Cond.code ({ cls := "StarLess", name := "hotel", desc := "(IIII)I" } : Jvm.MethodName) prog_1_method_2_code (7 : Nat) (Option.some Jvm.ClassFile.FieldType.int)) ∈ zWs := kw_of 215 (by decide +kernel) rfl
theorem kw_216 : (Jvm.Cond.methodLinkNest "StarLess" (57 : Nat) ({ cls := "StarLess$Sheets", name := "isSheet", desc := "(I)Z" } : Jvm.MethodName) "StarLess") ∈ zNs := kn_of 216 (by decide +kernel) rfl
theorem kw_218 : (Jvm.Cond.instanceMethod ({ cls := "StarLess$Sheets", name := "isSheet", desc := "(I)Z" } : Jvm.MethodName)) ∈ zWs := kw_of 218 (by decide +kernel) rfl
theorem kw_219 : (Jvm.Cond.code ({ cls := "StarLess$Sheets", name := "isSheet", desc := "(I)Z" } : Jvm.MethodName) prog_6_method_2_code (2 : Nat) (Option.some Jvm.ClassFile.FieldType.boolean)) ∈ zWs := kw_of 219 (by decide +kernel) rfl
theorem kw_220 : (Jvm.Cond.methodLink "StarLess" (61 : Nat) ({ cls := "StarLess", name := "isLane", desc := "(I)Z" } : Jvm.MethodName)) ∈ zWs := kw_of 220 (by decide +kernel) rfl
theorem kw_221 : (Jvm.Cond.static ({ cls := "StarLess", name := "isLane", desc := "(I)Z" } : Jvm.MethodName)) ∈ zWs := kw_of 221 (by decide +kernel) rfl
theorem kw_222 : (Jvm.Cond.code ({ cls := "StarLess", name := "isLane", desc := "(I)Z" } : Jvm.MethodName) prog_1_method_31_code (1 : Nat) (Option.some Jvm.ClassFile.FieldType.boolean)) ∈ zWs := kw_of 222 (by decide +kernel) rfl
theorem kw_223 : (Jvm.Cond.methodLinkNest "StarLess" (64 : Nat) ({ cls := "StarLess$Sheets", name := "faultAsRow", desc := "(II)I" } : Jvm.MethodName) "StarLess") ∈ zNs := kn_of 223 (by decide +kernel) rfl
theorem kw_225 : (Jvm.Cond.instanceMethod ({ cls := "StarLess$Sheets", name := "faultAsRow", desc := "(II)I" } : Jvm.MethodName)) ∈ zWs := kw_of 225 (by decide +kernel) rfl
theorem kw_226 : (Jvm.Cond.code ({ cls := "StarLess$Sheets", name := "faultAsRow", desc := "(II)I" } : Jvm.MethodName) prog_6_method_5_code (3 : Nat) (Option.some Jvm.ClassFile.FieldType.int)) ∈ zWs := kw_of 226 (by decide +kernel) rfl
theorem kw_227 : (Jvm.Cond.methodLink "StarLess" (68 : Nat) ({ cls := "StarLess", name := "faulty", desc := "(I)I" } : Jvm.MethodName)) ∈ zWs := kw_of 227 (by decide +kernel) rfl
theorem kw_229 : (Jvm.Cond.instanceMethod ({ cls := "StarLess", name := "faulty", desc := "(I)I" } : Jvm.MethodName)) ∈ zWs := kw_of 229 (by decide +kernel) rfl
theorem kw_230 : (Jvm.Cond.code ({ cls := "StarLess", name := "faulty", desc := "(I)I" } : Jvm.MethodName) prog_1_method_37_code (2 : Nat) (Option.some Jvm.ClassFile.FieldType.int)) ∈ zWs := kw_of 230 (by decide +kernel) rfl
theorem kw_231 : (Jvm.Cond.methodLinkNest "StarLess" (72 : Nat) ({ cls := "StarLess$Sheets", name := "spans", desc := "(III)Z" } : Jvm.MethodName) "StarLess") ∈ zNs := kn_of 231 (by decide +kernel) rfl
theorem kw_233 : (Jvm.Cond.instanceMethod ({ cls := "StarLess$Sheets", name := "spans", desc := "(III)Z" } : Jvm.MethodName)) ∈ zWs := kw_of 233 (by decide +kernel) rfl
theorem kw_234 : (Jvm.Cond.code ({ cls := "StarLess$Sheets", name := "spans", desc := "(III)Z" } : Jvm.MethodName) prog_6_method_4_code (4 : Nat) (Option.some Jvm.ClassFile.FieldType.boolean)) ∈ zWs := kw_of 234 (by decide +kernel) rfl
theorem kw_235 : (Jvm.Cond.methodLinkNest "StarLess" (80 : Nat) ({ cls := "StarLess$Text", name := "isOne", desc := "([III)Z" } : Jvm.MethodName) "StarLess") ∈ zNs := kn_of 235 (by decide +kernel) rfl
theorem kw_237 : (Jvm.Cond.instanceMethod ({ cls := "StarLess$Text", name := "isOne", desc := "([III)Z" } : Jvm.MethodName)) ∈ zWs := kw_of 237 (by decide +kernel) rfl
theorem kw_238 : (Jvm.Cond.code ({ cls := "StarLess$Text", name := "isOne", desc := "([III)Z" } : Jvm.MethodName) prog_7_method_2_code (5 : Nat) (Option.some Jvm.ClassFile.FieldType.boolean)) ∈ zWs := kw_of 238 (by decide +kernel) rfl
theorem kw_239 : (Jvm.Cond.methodLink "StarLess$Text" (25 : Nat) ({ cls := "StarLess$Text", name := "next", desc := "(II)Z" } : Jvm.MethodName)) ∈ zWs := kw_of 239 (by decide +kernel) rfl
theorem kw_241 : (Jvm.Cond.instanceMethod ({ cls := "StarLess$Text", name := "next", desc := "(II)Z" } : Jvm.MethodName)) ∈ zWs := kw_of 241 (by decide +kernel) rfl
theorem kw_242 : (Jvm.Cond.code ({ cls := "StarLess$Text", name := "next", desc := "(II)Z" } : Jvm.MethodName) prog_7_method_6_code (4 : Nat) (Option.some Jvm.ClassFile.FieldType.boolean)) ∈ zWs := kw_of 242 (by decide +kernel) rfl
theorem kw_243 : (Jvm.Cond.methodLink "StarLess$Text" (29 : Nat) ({ cls := "StarLess$Text", name := "areDoings", desc := "()Z" } : Jvm.MethodName)) ∈ zWs := kw_of 243 (by decide +kernel) rfl
theorem kw_245 : (Jvm.Cond.instanceMethod ({ cls := "StarLess$Text", name := "areDoings", desc := "()Z" } : Jvm.MethodName)) ∈ zWs := kw_of 245 (by decide +kernel) rfl
theorem kw_246 : (Jvm.Cond.code ({ cls := "StarLess$Text", name := "areDoings", desc := "()Z" } : Jvm.MethodName) prog_7_method_3_code (1 : Nat) (Option.some Jvm.ClassFile.FieldType.boolean)) ∈ zWs := kw_of 246 (by decide +kernel) rfl
theorem kw_247 : (Jvm.Cond.methodLink "StarLess$Text" (33 : Nat) ({ cls := "StarLess$Text", name := "areGuests", desc := "()Z" } : Jvm.MethodName)) ∈ zWs := kw_of 247 (by decide +kernel) rfl
theorem kw_249 : (Jvm.Cond.instanceMethod ({ cls := "StarLess$Text", name := "areGuests", desc := "()Z" } : Jvm.MethodName)) ∈ zWs := kw_of 249 (by decide +kernel) rfl
theorem kw_250 : (Jvm.Cond.code ({ cls := "StarLess$Text", name := "areGuests", desc := "()Z" } : Jvm.MethodName) prog_7_method_4_code (1 : Nat) (Option.some Jvm.ClassFile.FieldType.boolean)) ∈ zWs := kw_of 250 (by decide +kernel) rfl
theorem kw_251 : (Jvm.Cond.methodLink "StarLess$Text" (42 : Nat) ({ cls := "StarLess$Text", name := "isLetter", desc := "()Z" } : Jvm.MethodName)) ∈ zWs := kw_of 251 (by decide +kernel) rfl
theorem kw_253 : (Jvm.Cond.instanceMethod ({ cls := "StarLess$Text", name := "isLetter", desc := "()Z" } : Jvm.MethodName)) ∈ zWs := kw_of 253 (by decide +kernel) rfl
theorem kw_254 : (Jvm.Cond.code ({ cls := "StarLess$Text", name := "isLetter", desc := "()Z" } : Jvm.MethodName) prog_7_method_5_code (1 : Nat) (Option.some Jvm.ClassFile.FieldType.boolean)) ∈ zWs := kw_of 254 (by decide +kernel) rfl
theorem kw_255 : (Jvm.Cond.methodLinkNest "StarLess" (93 : Nat) ({ cls := "StarLess$House", name := "open", desc := "([IIII)V" } : Jvm.MethodName) "StarLess") ∈ zNs := kn_of 255 (by decide +kernel) rfl
theorem kw_257 : (Jvm.Cond.instanceMethod ({ cls := "StarLess$House", name := "open", desc := "([IIII)V" } : Jvm.MethodName)) ∈ zWs := kw_of 257 (by decide +kernel) rfl
theorem kw_258 : (Jvm.Cond.code ({ cls := "StarLess$House", name := "open", desc := "([IIII)V" } : Jvm.MethodName) prog_2_method_5_code (7 : Nat) (Option.none : Option Jvm.ClassFile.FieldType)) ∈ zWs := kw_of 258 (by decide +kernel) rfl
theorem kw_259 : (Jvm.Cond.methodLink "StarLess$House" (40 : Nat) ({ cls := "StarLess$House", name := "kindOf", desc := "(I)I" } : Jvm.MethodName)) ∈ zWs := kw_of 259 (by decide +kernel) rfl
theorem kw_260 : (Jvm.Cond.static ({ cls := "StarLess$House", name := "kindOf", desc := "(I)I" } : Jvm.MethodName)) ∈ zWs := kw_of 260 (by decide +kernel) rfl
theorem kw_261 : (Jvm.Cond.code ({ cls := "StarLess$House", name := "kindOf", desc := "(I)I" } : Jvm.MethodName) prog_2_method_6_code (1 : Nat) (Option.some Jvm.ClassFile.FieldType.int)) ∈ zWs := kw_of 261 (by decide +kernel) rfl
theorem kw_262 : (Jvm.Cond.methodLink "StarLessLaw" (18 : Nat) ({ cls := "StarLess", name := "ofGuest", desc := "(II)I" } : Jvm.MethodName)) ∈ zWs := kw_of 262 (by decide +kernel) rfl
theorem kw_263 : (Jvm.Cond.instanceMethod ({ cls := "StarLess", name := "ofGuest", desc := "(II)I" } : Jvm.MethodName)) ∈ zWs := kw_of 263 (by decide +kernel) rfl
theorem kw_264 : (Jvm.Cond.selects "StarLess" ({ cls := "StarLess", name := "ofGuest", desc := "(II)I" } : Jvm.MethodName) ({ cls := "StarLess", name := "ofGuest", desc := "(II)I" } : Jvm.MethodName)) ∈ zWs := kw_of 264 (by decide +kernel) rfl
theorem kw_265 : (Jvm.Cond.code ({ cls := "StarLess", name := "ofGuest", desc := "(II)I" } : Jvm.MethodName) prog_1_method_3_code (3 : Nat) (Option.some Jvm.ClassFile.FieldType.int)) ∈ zWs := kw_of 265 (by decide +kernel) rfl
theorem kw_266 : (Jvm.Cond.methodLinkNest "StarLess" (101 : Nat) ({ cls := "StarLess$House", name := "isGuest", desc := "(I)Z" } : Jvm.MethodName) "StarLess") ∈ zNs := kn_of 266 (by decide +kernel) rfl
theorem kw_268 : (Jvm.Cond.instanceMethod ({ cls := "StarLess$House", name := "isGuest", desc := "(I)Z" } : Jvm.MethodName)) ∈ zWs := kw_of 268 (by decide +kernel) rfl
theorem kw_269 : (Jvm.Cond.code ({ cls := "StarLess$House", name := "isGuest", desc := "(I)Z" } : Jvm.MethodName) prog_2_method_3_code (2 : Nat) (Option.some Jvm.ClassFile.FieldType.boolean)) ∈ zWs := kw_of 269 (by decide +kernel) rfl
theorem kw_270 : (Jvm.Cond.methodLink "StarLessLaw" (23 : Nat) ({ cls := "StarLess", name := "ofDoing", desc := "(II)I" } : Jvm.MethodName)) ∈ zWs := kw_of 270 (by decide +kernel) rfl
theorem kw_271 : (Jvm.Cond.instanceMethod ({ cls := "StarLess", name := "ofDoing", desc := "(II)I" } : Jvm.MethodName)) ∈ zWs := kw_of 271 (by decide +kernel) rfl
theorem kw_272 : (Jvm.Cond.selects "StarLess" ({ cls := "StarLess", name := "ofDoing", desc := "(II)I" } : Jvm.MethodName) ({ cls := "StarLess", name := "ofDoing", desc := "(II)I" } : Jvm.MethodName)) ∈ zWs := kw_of 272 (by decide +kernel) rfl
theorem kw_273 : (Jvm.Cond.code ({ cls := "StarLess", name := "ofDoing", desc := "(II)I" } : Jvm.MethodName) prog_1_method_4_code (3 : Nat) (Option.some Jvm.ClassFile.FieldType.int)) ∈ zWs := kw_of 273 (by decide +kernel) rfl
theorem kw_274 : (Jvm.Cond.methodLinkNest "StarLess" (114 : Nat) ({ cls := "StarLess$House", name := "isDoing", desc := "(I)Z" } : Jvm.MethodName) "StarLess") ∈ zNs := kn_of 274 (by decide +kernel) rfl
theorem kw_276 : (Jvm.Cond.instanceMethod ({ cls := "StarLess$House", name := "isDoing", desc := "(I)Z" } : Jvm.MethodName)) ∈ zWs := kw_of 276 (by decide +kernel) rfl
theorem kw_277 : (Jvm.Cond.code ({ cls := "StarLess$House", name := "isDoing", desc := "(I)Z" } : Jvm.MethodName) prog_2_method_4_code (2 : Nat) (Option.some Jvm.ClassFile.FieldType.boolean)) ∈ zWs := kw_of 277 (by decide +kernel) rfl
theorem kw_278 : (Jvm.Cond.methodLinkNest "StarLess" (123 : Nat) ({ cls := "StarLess$House", name := "wonBy", desc := "(I)I" } : Jvm.MethodName) "StarLess") ∈ zNs := kn_of 278 (by decide +kernel) rfl
theorem kw_280 : (Jvm.Cond.instanceMethod ({ cls := "StarLess$House", name := "wonBy", desc := "(I)I" } : Jvm.MethodName)) ∈ zWs := kw_of 280 (by decide +kernel) rfl
theorem kw_281 : (Jvm.Cond.code ({ cls := "StarLess$House", name := "wonBy", desc := "(I)I" } : Jvm.MethodName) prog_2_method_9_code (4 : Nat) (Option.some Jvm.ClassFile.FieldType.int)) ∈ zWs := kw_of 281 (by decide +kernel) rfl
theorem kw_282 : (Jvm.Cond.methodLink "StarLess$House" (48 : Nat) ({ cls := "StarLess$House", name := "isWon", desc := "(II)Z" } : Jvm.MethodName)) ∈ zWs := kw_of 282 (by decide +kernel) rfl
theorem kw_284 : (Jvm.Cond.instanceMethod ({ cls := "StarLess$House", name := "isWon", desc := "(II)Z" } : Jvm.MethodName)) ∈ zWs := kw_of 284 (by decide +kernel) rfl
theorem kw_285 : (Jvm.Cond.code ({ cls := "StarLess$House", name := "isWon", desc := "(II)Z" } : Jvm.MethodName) prog_2_method_8_code (3 : Nat) (Option.some Jvm.ClassFile.FieldType.boolean)) ∈ zWs := kw_of 285 (by decide +kernel) rfl
theorem kw_286 : (Jvm.Cond.methodLink "StarLess$House" (44 : Nat) ({ cls := "StarLess$House", name := "pleasure", desc := "(II)I" } : Jvm.MethodName)) ∈ zWs := kw_of 286 (by decide +kernel) rfl
theorem kw_288 : (Jvm.Cond.instanceMethod ({ cls := "StarLess$House", name := "pleasure", desc := "(II)I" } : Jvm.MethodName)) ∈ zWs := kw_of 288 (by decide +kernel) rfl
theorem kw_289 : (Jvm.Cond.code ({ cls := "StarLess$House", name := "pleasure", desc := "(II)I" } : Jvm.MethodName) prog_2_method_7_code (5 : Nat) (Option.some Jvm.ClassFile.FieldType.int)) ∈ zWs := kw_of 289 (by decide +kernel) rfl
theorem kw_290 : (Jvm.Cond.methodLink "StarLessLaw" (27 : Nat) ({ cls := "StarLess", name := "strict", desc := "(I)I" } : Jvm.MethodName)) ∈ zWs := kw_of 290 (by decide +kernel) rfl
theorem kw_291 : (Jvm.Cond.instanceMethod ({ cls := "StarLess", name := "strict", desc := "(I)I" } : Jvm.MethodName)) ∈ zWs := kw_of 291 (by decide +kernel) rfl
theorem kw_292 : (Jvm.Cond.selects "StarLess" ({ cls := "StarLess", name := "strict", desc := "(I)I" } : Jvm.MethodName) ({ cls := "StarLess", name := "strict", desc := "(I)I" } : Jvm.MethodName)) ∈ zWs := kw_of 292 (by decide +kernel) rfl
theorem kw_293 : (Jvm.Cond.code ({ cls := "StarLess", name := "strict", desc := "(I)I" } : Jvm.MethodName) prog_1_method_5_code (3 : Nat) (Option.some Jvm.ClassFile.FieldType.int)) ∈ zWs := kw_of 293 (by decide +kernel) rfl
theorem kw_294 : (Jvm.Cond.methodLinkNest "StarLess" (126 : Nat) ({ cls := "StarLess$House", name := "isOpen", desc := "()Z" } : Jvm.MethodName) "StarLess") ∈ zNs := kn_of 294 (by decide +kernel) rfl
theorem kw_296 : (Jvm.Cond.instanceMethod ({ cls := "StarLess$House", name := "isOpen", desc := "()Z" } : Jvm.MethodName)) ∈ zWs := kw_of 296 (by decide +kernel) rfl
theorem kw_297 : (Jvm.Cond.code ({ cls := "StarLess$House", name := "isOpen", desc := "()Z" } : Jvm.MethodName) prog_2_method_2_code (1 : Nat) (Option.some Jvm.ClassFile.FieldType.boolean)) ∈ zWs := kw_of 297 (by decide +kernel) rfl
theorem kw_298 : (Jvm.Cond.methodLink "StarLessLaw" (32 : Nat) ({ cls := "StarLess", name := "stars", desc := "(I)I" } : Jvm.MethodName)) ∈ zWs := kw_of 298 (by decide +kernel) rfl
theorem kw_299 : (Jvm.Cond.instanceMethod ({ cls := "StarLess", name := "stars", desc := "(I)I" } : Jvm.MethodName)) ∈ zWs := kw_of 299 (by decide +kernel) rfl
theorem kw_300 : (Jvm.Cond.selects "StarLess" ({ cls := "StarLess", name := "stars", desc := "(I)I" } : Jvm.MethodName) ({ cls := "StarLess", name := "stars", desc := "(I)I" } : Jvm.MethodName)) ∈ zWs := kw_of 300 (by decide +kernel) rfl
theorem kw_301 : (Jvm.Cond.code ({ cls := "StarLess", name := "stars", desc := "(I)I" } : Jvm.MethodName) prog_1_method_6_code (3 : Nat) (Option.some Jvm.ClassFile.FieldType.int)) ∈ zWs := kw_of 301 (by decide +kernel) rfl
theorem kw_302 : (Jvm.Cond.methodLink "StarLess" (133 : Nat) ({ cls := "StarLess", name := "isStars", desc := "(I)Z" } : Jvm.MethodName)) ∈ zWs := kw_of 302 (by decide +kernel) rfl
theorem kw_303 : (Jvm.Cond.static ({ cls := "StarLess", name := "isStars", desc := "(I)Z" } : Jvm.MethodName)) ∈ zWs := kw_of 303 (by decide +kernel) rfl
theorem kw_304 : (Jvm.Cond.code ({ cls := "StarLess", name := "isStars", desc := "(I)Z" } : Jvm.MethodName) prog_1_method_33_code (1 : Nat) (Option.some Jvm.ClassFile.FieldType.boolean)) ∈ zWs := kw_of 304 (by decide +kernel) rfl
theorem kw_305 : (Jvm.Cond.methodLink "StarLessLaw" (36 : Nat) ({ cls := "StarLess", name := "pleased", desc := "(II)I" } : Jvm.MethodName)) ∈ zWs := kw_of 305 (by decide +kernel) rfl
theorem kw_306 : (Jvm.Cond.instanceMethod ({ cls := "StarLess", name := "pleased", desc := "(II)I" } : Jvm.MethodName)) ∈ zWs := kw_of 306 (by decide +kernel) rfl
theorem kw_307 : (Jvm.Cond.selects "StarLess" ({ cls := "StarLess", name := "pleased", desc := "(II)I" } : Jvm.MethodName) ({ cls := "StarLess", name := "pleased", desc := "(II)I" } : Jvm.MethodName)) ∈ zWs := kw_of 307 (by decide +kernel) rfl
theorem kw_308 : (Jvm.Cond.code ({ cls := "StarLess", name := "pleased", desc := "(II)I" } : Jvm.MethodName) prog_1_method_7_code (3 : Nat) (Option.some Jvm.ClassFile.FieldType.int)) ∈ zWs := kw_of 308 (by decide +kernel) rfl
theorem kw_309 : (Jvm.Cond.methodLinkNest "StarLess" (139 : Nat) ({ cls := "StarLess$House", name := "pleasure", desc := "(II)I" } : Jvm.MethodName) "StarLess") ∈ zNs := kn_of 309 (by decide +kernel) rfl
theorem kw_310 : (Jvm.Cond.methodLink "StarLessLaw" (40 : Nat) ({ cls := "StarLess", name := "season", desc := "(IIIIII)I" } : Jvm.MethodName)) ∈ zWs := kw_of 310 (by decide +kernel) rfl
theorem kw_311 : (Jvm.Cond.instanceMethod ({ cls := "StarLess", name := "season", desc := "(IIIIII)I" } : Jvm.MethodName)) ∈ zWs := kw_of 311 (by decide +kernel) rfl
theorem kw_312 : (Jvm.Cond.selects "StarLess" ({ cls := "StarLess", name := "season", desc := "(IIIIII)I" } : Jvm.MethodName) ({ cls := "StarLess", name := "season", desc := "(IIIIII)I" } : Jvm.MethodName)) ∈ zWs := kw_of 312 (by decide +kernel) rfl
theorem kw_313 : (Jvm.Cond.code ({ cls := "StarLess", name := "season", desc := "(IIIIII)I" } : Jvm.MethodName) prog_1_method_8_code (8 : Nat) (Option.some Jvm.ClassFile.FieldType.int)) ∈ zWs := kw_of 313 (by decide +kernel) rfl
theorem kw_314 : (Jvm.Cond.methodLink "StarLess" (142 : Nat) ({ cls := "StarLess", name := "isPairs", desc := "(I)Z" } : Jvm.MethodName)) ∈ zWs := kw_of 314 (by decide +kernel) rfl
theorem kw_315 : (Jvm.Cond.static ({ cls := "StarLess", name := "isPairs", desc := "(I)Z" } : Jvm.MethodName)) ∈ zWs := kw_of 315 (by decide +kernel) rfl
theorem kw_316 : (Jvm.Cond.code ({ cls := "StarLess", name := "isPairs", desc := "(I)Z" } : Jvm.MethodName) prog_1_method_32_code (1 : Nat) (Option.some Jvm.ClassFile.FieldType.boolean)) ∈ zWs := kw_of 316 (by decide +kernel) rfl
theorem kw_317 : (Jvm.Cond.methodLink "StarLess" (145 : Nat) ({ cls := "StarLess", name := "refusedPairs", desc := "(IIII)I" } : Jvm.MethodName)) ∈ zWs := kw_of 317 (by decide +kernel) rfl
theorem kw_319 : (Jvm.Cond.instanceMethod ({ cls := "StarLess", name := "refusedPairs", desc := "(IIII)I" } : Jvm.MethodName)) ∈ zWs := kw_of 319 (by decide +kernel) rfl
theorem kw_320 : (Jvm.Cond.code ({ cls := "StarLess", name := "refusedPairs", desc := "(IIII)I" } : Jvm.MethodName) prog_1_method_39_code (8 : Nat) (Option.some Jvm.ClassFile.FieldType.int)) ∈ zWs := kw_of 320 (by decide +kernel) rfl
theorem kw_321 : (Jvm.Cond.methodLinkNest "StarLess" (149 : Nat) ({ cls := "StarLess$Outcome", name := "live", desc := "(LStarLess$House;[IIII)V" } : Jvm.MethodName) "StarLess") ∈ zNs := kn_of 321 (by decide +kernel) rfl
theorem kw_323 : (Jvm.Cond.instanceMethod ({ cls := "StarLess$Outcome", name := "live", desc := "(LStarLess$House;[IIII)V" } : Jvm.MethodName)) ∈ zWs := kw_of 323 (by decide +kernel) rfl
theorem kw_324 : (Jvm.Cond.code ({ cls := "StarLess$Outcome", name := "live", desc := "(LStarLess$House;[IIII)V" } : Jvm.MethodName) prog_4_method_2_code (9 : Nat) (Option.none : Option Jvm.ClassFile.FieldType)) ∈ zWs := kw_of 324 (by decide +kernel) rfl
theorem kw_325 : (Jvm.Cond.methodLink "StarLess$Outcome" (34 : Nat) ({ cls := "StarLess$Outcome", name := "pay", desc := "(LStarLess$House;IIIZ)V" } : Jvm.MethodName)) ∈ zWs := kw_of 325 (by decide +kernel) rfl
theorem kw_327 : (Jvm.Cond.instanceMethod ({ cls := "StarLess$Outcome", name := "pay", desc := "(LStarLess$House;IIIZ)V" } : Jvm.MethodName)) ∈ zWs := kw_of 327 (by decide +kernel) rfl
theorem kw_328 : (Jvm.Cond.code ({ cls := "StarLess$Outcome", name := "pay", desc := "(LStarLess$House;IIIZ)V" } : Jvm.MethodName) prog_4_method_3_code (6 : Nat) (Option.none : Option Jvm.ClassFile.FieldType)) ∈ zWs := kw_of 328 (by decide +kernel) rfl
theorem kw_329 : (Jvm.Cond.methodLinkNest "StarLess$Outcome" (38 : Nat) ({ cls := "StarLess$House", name := "pleasure", desc := "(II)I" } : Jvm.MethodName) "StarLess") ∈ zNs := kn_of 329 (by decide +kernel) rfl
theorem kw_330 : (Jvm.Cond.methodLinkNest "StarLess$Outcome" (41 : Nat) ({ cls := "StarLess$House", name := "isWon", desc := "(II)Z" } : Jvm.MethodName) "StarLess") ∈ zNs := kn_of 330 (by decide +kernel) rfl
theorem kw_331 : (Jvm.Cond.methodLink "StarLessLaw" (45 : Nat) ({ cls := "StarLess", name := "may", desc := "(IIIII)I" } : Jvm.MethodName)) ∈ zWs := kw_of 331 (by decide +kernel) rfl
theorem kw_332 : (Jvm.Cond.instanceMethod ({ cls := "StarLess", name := "may", desc := "(IIIII)I" } : Jvm.MethodName)) ∈ zWs := kw_of 332 (by decide +kernel) rfl
theorem kw_333 : (Jvm.Cond.selects "StarLess" ({ cls := "StarLess", name := "may", desc := "(IIIII)I" } : Jvm.MethodName) ({ cls := "StarLess", name := "may", desc := "(IIIII)I" } : Jvm.MethodName)) ∈ zWs := kw_of 333 (by decide +kernel) rfl
theorem kw_334 : (Jvm.Cond.code ({ cls := "StarLess", name := "may", desc := "(IIIII)I" } : Jvm.MethodName) prog_1_method_9_code (10 : Nat) (Option.some Jvm.ClassFile.FieldType.int)) ∈ zWs := kw_of 334 (by decide +kernel) rfl
theorem kw_335 : (Jvm.Cond.methodLink "StarLess" (165 : Nat) ({ cls := "StarLess", name := "refusedSeason", desc := "(IIIII)I" } : Jvm.MethodName)) ∈ zWs := kw_of 335 (by decide +kernel) rfl
theorem kw_337 : (Jvm.Cond.instanceMethod ({ cls := "StarLess", name := "refusedSeason", desc := "(IIIII)I" } : Jvm.MethodName)) ∈ zWs := kw_of 337 (by decide +kernel) rfl
theorem kw_338 : (Jvm.Cond.code ({ cls := "StarLess", name := "refusedSeason", desc := "(IIIII)I" } : Jvm.MethodName) prog_1_method_38_code (6 : Nat) (Option.some Jvm.ClassFile.FieldType.int)) ∈ zWs := kw_of 338 (by decide +kernel) rfl
theorem kw_339 : (Jvm.Cond.methodLink "StarLessLaw" (50 : Nat) ({ cls := "StarLess", name := "ask", desc := "(I)I" } : Jvm.MethodName)) ∈ zWs := kw_of 339 (by decide +kernel) rfl
theorem kw_340 : (Jvm.Cond.instanceMethod ({ cls := "StarLess", name := "ask", desc := "(I)I" } : Jvm.MethodName)) ∈ zWs := kw_of 340 (by decide +kernel) rfl
theorem kw_341 : (Jvm.Cond.selects "StarLess" ({ cls := "StarLess", name := "ask", desc := "(I)I" } : Jvm.MethodName) ({ cls := "StarLess", name := "ask", desc := "(I)I" } : Jvm.MethodName)) ∈ zWs := kw_of 341 (by decide +kernel) rfl
theorem kw_342 : (Jvm.Cond.code ({ cls := "StarLess", name := "ask", desc := "(I)I" } : Jvm.MethodName) prog_1_method_10_code (6 : Nat) (Option.some Jvm.ClassFile.FieldType.int)) ∈ zWs := kw_of 342 (by decide +kernel) rfl
theorem kw_343 : (Jvm.Cond.methodLink "StarLess" (170 : Nat) ({ cls := "StarLess", name := "firstOf", desc := "(I)I" } : Jvm.MethodName)) ∈ zWs := kw_of 343 (by decide +kernel) rfl
theorem kw_344 : (Jvm.Cond.static ({ cls := "StarLess", name := "firstOf", desc := "(I)I" } : Jvm.MethodName)) ∈ zWs := kw_of 344 (by decide +kernel) rfl
theorem kw_345 : (Jvm.Cond.code ({ cls := "StarLess", name := "firstOf", desc := "(I)I" } : Jvm.MethodName) prog_1_method_34_code (2 : Nat) (Option.some Jvm.ClassFile.FieldType.int)) ∈ zWs := kw_of 345 (by decide +kernel) rfl
theorem kw_346 : (Jvm.Cond.methodLink "StarLessLaw" (54 : Nat) ({ cls := "StarLess", name := "dull", desc := "(I)I" } : Jvm.MethodName)) ∈ zWs := kw_of 346 (by decide +kernel) rfl
theorem kw_347 : (Jvm.Cond.instanceMethod ({ cls := "StarLess", name := "dull", desc := "(I)I" } : Jvm.MethodName)) ∈ zWs := kw_of 347 (by decide +kernel) rfl
theorem kw_348 : (Jvm.Cond.selects "StarLess" ({ cls := "StarLess", name := "dull", desc := "(I)I" } : Jvm.MethodName) ({ cls := "StarLess", name := "dull", desc := "(I)I" } : Jvm.MethodName)) ∈ zWs := kw_of 348 (by decide +kernel) rfl
theorem kw_349 : (Jvm.Cond.code ({ cls := "StarLess", name := "dull", desc := "(I)I" } : Jvm.MethodName) prog_1_method_11_code (6 : Nat) (Option.some Jvm.ClassFile.FieldType.int)) ∈ zWs := kw_of 349 (by decide +kernel) rfl
theorem kw_350 : (Jvm.Cond.methodLink "StarLessLaw" (58 : Nat) ({ cls := "StarLess", name := "fewest", desc := "(I)I" } : Jvm.MethodName)) ∈ zWs := kw_of 350 (by decide +kernel) rfl
theorem kw_351 : (Jvm.Cond.instanceMethod ({ cls := "StarLess", name := "fewest", desc := "(I)I" } : Jvm.MethodName)) ∈ zWs := kw_of 351 (by decide +kernel) rfl
theorem kw_352 : (Jvm.Cond.selects "StarLess" ({ cls := "StarLess", name := "fewest", desc := "(I)I" } : Jvm.MethodName) ({ cls := "StarLess", name := "fewest", desc := "(I)I" } : Jvm.MethodName)) ∈ zWs := kw_of 352 (by decide +kernel) rfl
theorem kw_353 : (Jvm.Cond.code ({ cls := "StarLess", name := "fewest", desc := "(I)I" } : Jvm.MethodName) prog_1_method_12_code (2 : Nat) (Option.some Jvm.ClassFile.FieldType.int)) ∈ zWs := kw_of 353 (by decide +kernel) rfl
theorem kw_354 : (Jvm.Cond.methodLinkNest "StarLess" (173 : Nat) ({ cls := "StarLess$Plan", name := "isMade", desc := "(LStarLess$House;)Z" } : Jvm.MethodName) "StarLess") ∈ zNs := kn_of 354 (by decide +kernel) rfl
theorem kw_356 : (Jvm.Cond.instanceMethod ({ cls := "StarLess$Plan", name := "isMade", desc := "(LStarLess$House;)Z" } : Jvm.MethodName)) ∈ zWs := kw_of 356 (by decide +kernel) rfl
theorem kw_357 : (Jvm.Cond.code ({ cls := "StarLess$Plan", name := "isMade", desc := "(LStarLess$House;)Z" } : Jvm.MethodName) prog_5_method_2_code (4 : Nat) (Option.some Jvm.ClassFile.FieldType.boolean)) ∈ zWs := kw_of 357 (by decide +kernel) rfl
theorem kw_358 : (Jvm.Cond.methodLink "StarLess$Plan" (26 : Nat) ({ cls := "StarLess$Plan", name := "leastOf", desc := "(LStarLess$House;II)I" } : Jvm.MethodName)) ∈ zWs := kw_of 358 (by decide +kernel) rfl
theorem kw_360 : (Jvm.Cond.instanceMethod ({ cls := "StarLess$Plan", name := "leastOf", desc := "(LStarLess$House;II)I" } : Jvm.MethodName)) ∈ zWs := kw_of 360 (by decide +kernel) rfl
theorem kw_361 : (Jvm.Cond.code ({ cls := "StarLess$Plan", name := "leastOf", desc := "(LStarLess$House;II)I" } : Jvm.MethodName) prog_5_method_3_code (6 : Nat) (Option.some Jvm.ClassFile.FieldType.int)) ∈ zWs := kw_of 361 (by decide +kernel) rfl
theorem kw_362 : (Jvm.Cond.constant "StarLess$Plan" (30 : Nat) (1000000 : Int32)) ∈ zWs := kw_of 362 (by decide +kernel) rfl
theorem kw_363 : (Jvm.Cond.methodLink "StarLess$Plan" (38 : Nat) ({ cls := "StarLess$Plan", name := "weight", desc := "(LStarLess$House;III)I" } : Jvm.MethodName)) ∈ zWs := kw_of 363 (by decide +kernel) rfl
theorem kw_365 : (Jvm.Cond.instanceMethod ({ cls := "StarLess$Plan", name := "weight", desc := "(LStarLess$House;III)I" } : Jvm.MethodName)) ∈ zWs := kw_of 365 (by decide +kernel) rfl
theorem kw_366 : (Jvm.Cond.code ({ cls := "StarLess$Plan", name := "weight", desc := "(LStarLess$House;III)I" } : Jvm.MethodName) prog_5_method_4_code (7 : Nat) (Option.some Jvm.ClassFile.FieldType.int)) ∈ zWs := kw_of 366 (by decide +kernel) rfl
theorem kw_367 : (Jvm.Cond.methodLinkNest "StarLess$Plan" (51 : Nat) ({ cls := "StarLess$House", name := "isWon", desc := "(II)Z" } : Jvm.MethodName) "StarLess") ∈ zNs := kn_of 367 (by decide +kernel) rfl
theorem kw_368 : (Jvm.Cond.methodLinkNest "StarLess$Plan" (55 : Nat) ({ cls := "StarLess$House", name := "pleasure", desc := "(II)I" } : Jvm.MethodName) "StarLess") ∈ zNs := kn_of 368 (by decide +kernel) rfl
theorem kw_369 : (Jvm.Cond.methodLink "StarLess$Plan" (42 : Nat) ({ cls := "java/lang/Math", name := "min", desc := "(II)I" } : Jvm.MethodName)) ∈ zWs := kw_of 369 (by decide +kernel) rfl
theorem kw_370 : (Jvm.Cond.static ({ cls := "java/lang/Math", name := "min", desc := "(II)I" } : Jvm.MethodName)) ∈ zWs := kw_of 370 (by decide +kernel) rfl
theorem kw_371 : (Jvm.Cond.code ({ cls := "java/lang/Math", name := "min", desc := "(II)I" } : Jvm.MethodName) prog_10_method_69_code (2 : Nat) (Option.some Jvm.ClassFile.FieldType.int)) ∈ zWs := kw_of 371 (by decide +kernel) rfl
theorem kw_372 : (Jvm.Cond.methodLink "StarLess$Plan" (31 : Nat) ({ cls := "StarLess$Plan", name := "choose", desc := "(LStarLess$House;)V" } : Jvm.MethodName)) ∈ zWs := kw_of 372 (by decide +kernel) rfl
theorem kw_374 : (Jvm.Cond.instanceMethod ({ cls := "StarLess$Plan", name := "choose", desc := "(LStarLess$House;)V" } : Jvm.MethodName)) ∈ zWs := kw_of 374 (by decide +kernel) rfl
theorem kw_375 : (Jvm.Cond.code ({ cls := "StarLess$Plan", name := "choose", desc := "(LStarLess$House;)V" } : Jvm.MethodName) prog_5_method_5_code (5 : Nat) (Option.none : Option Jvm.ClassFile.FieldType)) ∈ zWs := kw_of 375 (by decide +kernel) rfl
theorem kw_376 : (Jvm.Cond.methodLink "StarLess$Plan" (61 : Nat) ({ cls := "StarLess$Plan", name := "firstBest", desc := "(LStarLess$House;II)I" } : Jvm.MethodName)) ∈ zWs := kw_of 376 (by decide +kernel) rfl
theorem kw_378 : (Jvm.Cond.instanceMethod ({ cls := "StarLess$Plan", name := "firstBest", desc := "(LStarLess$House;II)I" } : Jvm.MethodName)) ∈ zWs := kw_of 378 (by decide +kernel) rfl
theorem kw_379 : (Jvm.Cond.code ({ cls := "StarLess$Plan", name := "firstBest", desc := "(LStarLess$House;II)I" } : Jvm.MethodName) prog_5_method_6_code (5 : Nat) (Option.some Jvm.ClassFile.FieldType.int)) ∈ zWs := kw_of 379 (by decide +kernel) rfl
theorem kw_380 : (Jvm.Cond.methodLink "StarLessLaw" (62 : Nat) ({ cls := "StarLess", name := "reading", desc := "(IIZ)I" } : Jvm.MethodName)) ∈ zWs := kw_of 380 (by decide +kernel) rfl
theorem kw_381 : (Jvm.Cond.instanceMethod ({ cls := "StarLess", name := "reading", desc := "(IIZ)I" } : Jvm.MethodName)) ∈ zWs := kw_of 381 (by decide +kernel) rfl
theorem kw_382 : (Jvm.Cond.selects "StarLess" ({ cls := "StarLess", name := "reading", desc := "(IIZ)I" } : Jvm.MethodName) ({ cls := "StarLess", name := "reading", desc := "(IIZ)I" } : Jvm.MethodName)) ∈ zWs := kw_of 382 (by decide +kernel) rfl
theorem kw_383 : (Jvm.Cond.code ({ cls := "StarLess", name := "reading", desc := "(IIZ)I" } : Jvm.MethodName) prog_1_method_13_code (4 : Nat) (Option.some Jvm.ClassFile.FieldType.int)) ∈ zWs := kw_of 383 (by decide +kernel) rfl
theorem kw_384 : (Jvm.Cond.methodLinkNest "StarLess" (183 : Nat) ({ cls := "StarLess$Log", name := "add", desc := "(IIZ)I" } : Jvm.MethodName) "StarLess") ∈ zNs := kn_of 384 (by decide +kernel) rfl
theorem kw_386 : (Jvm.Cond.instanceMethod ({ cls := "StarLess$Log", name := "add", desc := "(IIZ)I" } : Jvm.MethodName)) ∈ zWs := kw_of 386 (by decide +kernel) rfl
theorem kw_387 : (Jvm.Cond.code ({ cls := "StarLess$Log", name := "add", desc := "(IIZ)I" } : Jvm.MethodName) prog_3_method_2_code (4 : Nat) (Option.some Jvm.ClassFile.FieldType.int)) ∈ zWs := kw_of 387 (by decide +kernel) rfl
theorem kw_388 : (Jvm.Cond.methodLink "StarLessLaw" (67 : Nat) ({ cls := "StarLess", name := "back", desc := "(I)I" } : Jvm.MethodName)) ∈ zWs := kw_of 388 (by decide +kernel) rfl
theorem kw_389 : (Jvm.Cond.instanceMethod ({ cls := "StarLess", name := "back", desc := "(I)I" } : Jvm.MethodName)) ∈ zWs := kw_of 389 (by decide +kernel) rfl
theorem kw_390 : (Jvm.Cond.selects "StarLess" ({ cls := "StarLess", name := "back", desc := "(I)I" } : Jvm.MethodName) ({ cls := "StarLess", name := "back", desc := "(I)I" } : Jvm.MethodName)) ∈ zWs := kw_of 390 (by decide +kernel) rfl
theorem kw_391 : (Jvm.Cond.code ({ cls := "StarLess", name := "back", desc := "(I)I" } : Jvm.MethodName) prog_1_method_14_code (2 : Nat) (Option.some Jvm.ClassFile.FieldType.int)) ∈ zWs := kw_of 391 (by decide +kernel) rfl
theorem kw_392 : (Jvm.Cond.methodLink "StarLessLaw" (71 : Nat) ({ cls := "StarLess", name := "limits", desc := "()I" } : Jvm.MethodName)) ∈ zWs := kw_of 392 (by decide +kernel) rfl
theorem kw_393 : (Jvm.Cond.instanceMethod ({ cls := "StarLess", name := "limits", desc := "()I" } : Jvm.MethodName)) ∈ zWs := kw_of 393 (by decide +kernel) rfl
theorem kw_394 : (Jvm.Cond.selects "StarLess" ({ cls := "StarLess", name := "limits", desc := "()I" } : Jvm.MethodName) ({ cls := "StarLess", name := "limits", desc := "()I" } : Jvm.MethodName)) ∈ zWs := kw_of 394 (by decide +kernel) rfl
theorem kw_395 : (Jvm.Cond.code ({ cls := "StarLess", name := "limits", desc := "()I" } : Jvm.MethodName) prog_1_method_15_code (4 : Nat) (Option.some Jvm.ClassFile.FieldType.int)) ∈ zWs := kw_of 395 (by decide +kernel) rfl
theorem kw_396 : (Jvm.Cond.methodLinkNest "StarLess" (187 : Nat) ({ cls := "StarLess$Log", name := "isSo", desc := "(LStarLess$House;)Z" } : Jvm.MethodName) "StarLess") ∈ zNs := kn_of 396 (by decide +kernel) rfl
theorem kw_398 : (Jvm.Cond.instanceMethod ({ cls := "StarLess$Log", name := "isSo", desc := "(LStarLess$House;)Z" } : Jvm.MethodName)) ∈ zWs := kw_of 398 (by decide +kernel) rfl
theorem kw_399 : (Jvm.Cond.code ({ cls := "StarLess$Log", name := "isSo", desc := "(LStarLess$House;)Z" } : Jvm.MethodName) prog_3_method_3_code (3 : Nat) (Option.some Jvm.ClassFile.FieldType.boolean)) ∈ zWs := kw_of 399 (by decide +kernel) rfl
theorem kw_400 : (Jvm.Cond.methodLinkNest "StarLess$Log" (26 : Nat) ({ cls := "StarLess$House", name := "isWon", desc := "(II)Z" } : Jvm.MethodName) "StarLess") ∈ zNs := kn_of 400 (by decide +kernel) rfl
theorem kw_401 : (Jvm.Cond.methodLink "StarLessLaw" (76 : Nat) ({ cls := "StarLess", name := "kinds", desc := "(I)I" } : Jvm.MethodName)) ∈ zWs := kw_of 401 (by decide +kernel) rfl
theorem kw_402 : (Jvm.Cond.instanceMethod ({ cls := "StarLess", name := "kinds", desc := "(I)I" } : Jvm.MethodName)) ∈ zWs := kw_of 402 (by decide +kernel) rfl
theorem kw_403 : (Jvm.Cond.selects "StarLess" ({ cls := "StarLess", name := "kinds", desc := "(I)I" } : Jvm.MethodName) ({ cls := "StarLess", name := "kinds", desc := "(I)I" } : Jvm.MethodName)) ∈ zWs := kw_of 403 (by decide +kernel) rfl
theorem kw_404 : (Jvm.Cond.code ({ cls := "StarLess", name := "kinds", desc := "(I)I" } : Jvm.MethodName) prog_1_method_16_code (2 : Nat) (Option.some Jvm.ClassFile.FieldType.int)) ∈ zWs := kw_of 404 (by decide +kernel) rfl
theorem kw_405 : (Jvm.Cond.methodLink "StarLess" (190 : Nat) ({ cls := "StarLess", name := "fitting", desc := "([III)I" } : Jvm.MethodName)) ∈ zWs := kw_of 405 (by decide +kernel) rfl
theorem kw_407 : (Jvm.Cond.instanceMethod ({ cls := "StarLess", name := "fitting", desc := "([III)I" } : Jvm.MethodName)) ∈ zWs := kw_of 407 (by decide +kernel) rfl
theorem kw_408 : (Jvm.Cond.code ({ cls := "StarLess", name := "fitting", desc := "([III)I" } : Jvm.MethodName) prog_1_method_40_code (7 : Nat) (Option.some Jvm.ClassFile.FieldType.int)) ∈ zWs := kw_of 408 (by decide +kernel) rfl
theorem kw_409 : (Jvm.Cond.methodLink "StarLessLaw" (80 : Nat) ({ cls := "StarLess", name := "tastes", desc := "(I)I" } : Jvm.MethodName)) ∈ zWs := kw_of 409 (by decide +kernel) rfl
theorem kw_410 : (Jvm.Cond.instanceMethod ({ cls := "StarLess", name := "tastes", desc := "(I)I" } : Jvm.MethodName)) ∈ zWs := kw_of 410 (by decide +kernel) rfl
theorem kw_411 : (Jvm.Cond.selects "StarLess" ({ cls := "StarLess", name := "tastes", desc := "(I)I" } : Jvm.MethodName) ({ cls := "StarLess", name := "tastes", desc := "(I)I" } : Jvm.MethodName)) ∈ zWs := kw_of 411 (by decide +kernel) rfl
theorem kw_412 : (Jvm.Cond.code ({ cls := "StarLess", name := "tastes", desc := "(I)I" } : Jvm.MethodName) prog_1_method_17_code (2 : Nat) (Option.some Jvm.ClassFile.FieldType.int)) ∈ zWs := kw_of 412 (by decide +kernel) rfl
theorem kw_413 : (Jvm.Cond.methodLink "StarLessLaw" (84 : Nat) ({ cls := "StarLess", name := "charms", desc := "(I)I" } : Jvm.MethodName)) ∈ zWs := kw_of 413 (by decide +kernel) rfl
theorem kw_414 : (Jvm.Cond.instanceMethod ({ cls := "StarLess", name := "charms", desc := "(I)I" } : Jvm.MethodName)) ∈ zWs := kw_of 414 (by decide +kernel) rfl
theorem kw_415 : (Jvm.Cond.selects "StarLess" ({ cls := "StarLess", name := "charms", desc := "(I)I" } : Jvm.MethodName) ({ cls := "StarLess", name := "charms", desc := "(I)I" } : Jvm.MethodName)) ∈ zWs := kw_of 415 (by decide +kernel) rfl
theorem kw_416 : (Jvm.Cond.code ({ cls := "StarLess", name := "charms", desc := "(I)I" } : Jvm.MethodName) prog_1_method_18_code (2 : Nat) (Option.some Jvm.ClassFile.FieldType.int)) ∈ zWs := kw_of 416 (by decide +kernel) rfl
theorem kw_417 : (Jvm.Cond.methodLink "StarLessLaw" (88 : Nat) ({ cls := "StarLess", name := "odds", desc := "(IIIIII)J" } : Jvm.MethodName)) ∈ zWs := kw_of 417 (by decide +kernel) rfl
theorem kw_418 : (Jvm.Cond.instanceMethod ({ cls := "StarLess", name := "odds", desc := "(IIIIII)J" } : Jvm.MethodName)) ∈ zWs := kw_of 418 (by decide +kernel) rfl
theorem kw_419 : (Jvm.Cond.selects "StarLess" ({ cls := "StarLess", name := "odds", desc := "(IIIIII)J" } : Jvm.MethodName) ({ cls := "StarLess", name := "odds", desc := "(IIIIII)J" } : Jvm.MethodName)) ∈ zWs := kw_of 419 (by decide +kernel) rfl
theorem kw_420 : (Jvm.Cond.code ({ cls := "StarLess", name := "odds", desc := "(IIIIII)J" } : Jvm.MethodName) prog_1_method_19_code (10 : Nat) (Option.some Jvm.ClassFile.FieldType.long)) ∈ zWs := kw_of 420 (by decide +kernel) rfl
theorem kw_421 : (Jvm.Cond.constantLong "StarLess" (194 : Nat) (-9223372036854775808 : Int64)) ∈ zWs := kw_of 421 (by decide +kernel) rfl
theorem kw_422 : (Jvm.Cond.methodLink "StarLess" (196 : Nat) ({ cls := "StarLess", name := "commonDivisor", desc := "(II)I" } : Jvm.MethodName)) ∈ zWs := kw_of 422 (by decide +kernel) rfl
theorem kw_423 : (Jvm.Cond.static ({ cls := "StarLess", name := "commonDivisor", desc := "(II)I" } : Jvm.MethodName)) ∈ zWs := kw_of 423 (by decide +kernel) rfl
theorem kw_424 : (Jvm.Cond.code ({ cls := "StarLess", name := "commonDivisor", desc := "(II)I" } : Jvm.MethodName) prog_1_method_36_code (6 : Nat) (Option.some Jvm.ClassFile.FieldType.int)) ∈ zWs := kw_of 424 (by decide +kernel) rfl
theorem kw_425 : (Jvm.Cond.methodLink "StarLessLaw" (93 : Nat) ({ cls := "StarLess", name := "sheet", desc := "(III)I" } : Jvm.MethodName)) ∈ zWs := kw_of 425 (by decide +kernel) rfl
theorem kw_426 : (Jvm.Cond.instanceMethod ({ cls := "StarLess", name := "sheet", desc := "(III)I" } : Jvm.MethodName)) ∈ zWs := kw_of 426 (by decide +kernel) rfl
theorem kw_427 : (Jvm.Cond.selects "StarLess" ({ cls := "StarLess", name := "sheet", desc := "(III)I" } : Jvm.MethodName) ({ cls := "StarLess", name := "sheet", desc := "(III)I" } : Jvm.MethodName)) ∈ zWs := kw_of 427 (by decide +kernel) rfl
theorem kw_428 : (Jvm.Cond.code ({ cls := "StarLess", name := "sheet", desc := "(III)I" } : Jvm.MethodName) prog_1_method_20_code (4 : Nat) (Option.some Jvm.ClassFile.FieldType.int)) ∈ zWs := kw_of 428 (by decide +kernel) rfl
theorem kw_429 : (Jvm.Cond.methodLinkNest "StarLess" (199 : Nat) ({ cls := "StarLess$Sheets", name := "renew", desc := "(III)V" } : Jvm.MethodName) "StarLess") ∈ zNs := kn_of 429 (by decide +kernel) rfl
theorem kw_431 : (Jvm.Cond.instanceMethod ({ cls := "StarLess$Sheets", name := "renew", desc := "(III)V" } : Jvm.MethodName)) ∈ zWs := kw_of 431 (by decide +kernel) rfl
theorem kw_432 : (Jvm.Cond.code ({ cls := "StarLess$Sheets", name := "renew", desc := "(III)V" } : Jvm.MethodName) prog_6_method_6_code (5 : Nat) (Option.none : Option Jvm.ClassFile.FieldType)) ∈ zWs := kw_of 432 (by decide +kernel) rfl
theorem kw_433 : (Jvm.Cond.methodLink "StarLessLaw" (98 : Nat) ({ cls := "StarLess", name := "lose", desc := "(I)I" } : Jvm.MethodName)) ∈ zWs := kw_of 433 (by decide +kernel) rfl
theorem kw_434 : (Jvm.Cond.instanceMethod ({ cls := "StarLess", name := "lose", desc := "(I)I" } : Jvm.MethodName)) ∈ zWs := kw_of 434 (by decide +kernel) rfl
theorem kw_435 : (Jvm.Cond.selects "StarLess" ({ cls := "StarLess", name := "lose", desc := "(I)I" } : Jvm.MethodName) ({ cls := "StarLess", name := "lose", desc := "(I)I" } : Jvm.MethodName)) ∈ zWs := kw_of 435 (by decide +kernel) rfl
theorem kw_436 : (Jvm.Cond.code ({ cls := "StarLess", name := "lose", desc := "(I)I" } : Jvm.MethodName) prog_1_method_21_code (3 : Nat) (Option.some Jvm.ClassFile.FieldType.int)) ∈ zWs := kw_of 436 (by decide +kernel) rfl
theorem kw_437 : (Jvm.Cond.methodLink "StarLessLaw" (102 : Nat) ({ cls := "StarLess", name := "put", desc := "(III)I" } : Jvm.MethodName)) ∈ zWs := kw_of 437 (by decide +kernel) rfl
theorem kw_438 : (Jvm.Cond.instanceMethod ({ cls := "StarLess", name := "put", desc := "(III)I" } : Jvm.MethodName)) ∈ zWs := kw_of 438 (by decide +kernel) rfl
theorem kw_439 : (Jvm.Cond.selects "StarLess" ({ cls := "StarLess", name := "put", desc := "(III)I" } : Jvm.MethodName) ({ cls := "StarLess", name := "put", desc := "(III)I" } : Jvm.MethodName)) ∈ zWs := kw_of 439 (by decide +kernel) rfl
theorem kw_440 : (Jvm.Cond.code ({ cls := "StarLess", name := "put", desc := "(III)I" } : Jvm.MethodName) prog_1_method_22_code (4 : Nat) (Option.some Jvm.ClassFile.FieldType.int)) ∈ zWs := kw_of 440 (by decide +kernel) rfl
theorem kw_441 : (Jvm.Cond.methodLinkNest "StarLess" (207 : Nat) ({ cls := "StarLess$Sheets", name := "isCell", desc := "(II)Z" } : Jvm.MethodName) "StarLess") ∈ zNs := kn_of 441 (by decide +kernel) rfl
theorem kw_443 : (Jvm.Cond.instanceMethod ({ cls := "StarLess$Sheets", name := "isCell", desc := "(II)Z" } : Jvm.MethodName)) ∈ zWs := kw_of 443 (by decide +kernel) rfl
theorem kw_444 : (Jvm.Cond.code ({ cls := "StarLess$Sheets", name := "isCell", desc := "(II)Z" } : Jvm.MethodName) prog_6_method_3_code (3 : Nat) (Option.some Jvm.ClassFile.FieldType.boolean)) ∈ zWs := kw_of 444 (by decide +kernel) rfl
theorem kw_445 : (Jvm.Cond.methodLink "StarLess" (214 : Nat) ({ cls := "StarLess", name := "cut", desc := "(II)I" } : Jvm.MethodName)) ∈ zWs := kw_of 445 (by decide +kernel) rfl
theorem kw_446 : (Jvm.Cond.static ({ cls := "StarLess", name := "cut", desc := "(II)I" } : Jvm.MethodName)) ∈ zWs := kw_of 446 (by decide +kernel) rfl
theorem kw_447 : (Jvm.Cond.code ({ cls := "StarLess", name := "cut", desc := "(II)I" } : Jvm.MethodName) prog_1_method_35_code (2 : Nat) (Option.some Jvm.ClassFile.FieldType.int)) ∈ zWs := kw_of 447 (by decide +kernel) rfl
theorem kw_448 : (Jvm.Cond.methodLink "StarLessLaw" (106 : Nat) ({ cls := "StarLess", name := "cell", desc := "(III)J" } : Jvm.MethodName)) ∈ zWs := kw_of 448 (by decide +kernel) rfl
theorem kw_449 : (Jvm.Cond.instanceMethod ({ cls := "StarLess", name := "cell", desc := "(III)J" } : Jvm.MethodName)) ∈ zWs := kw_of 449 (by decide +kernel) rfl
theorem kw_450 : (Jvm.Cond.selects "StarLess" ({ cls := "StarLess", name := "cell", desc := "(III)J" } : Jvm.MethodName) ({ cls := "StarLess", name := "cell", desc := "(III)J" } : Jvm.MethodName)) ∈ zWs := kw_of 450 (by decide +kernel) rfl
theorem kw_451 : (Jvm.Cond.code ({ cls := "StarLess", name := "cell", desc := "(III)J" } : Jvm.MethodName) prog_1_method_23_code (4 : Nat) (Option.some Jvm.ClassFile.FieldType.long)) ∈ zWs := kw_of 451 (by decide +kernel) rfl
theorem kw_452 : (Jvm.Cond.methodLink "StarLessLaw" (111 : Nat) ({ cls := "StarLess", name := "copy", desc := "(IIIII)I" } : Jvm.MethodName)) ∈ zWs := kw_of 452 (by decide +kernel) rfl
theorem kw_453 : (Jvm.Cond.instanceMethod ({ cls := "StarLess", name := "copy", desc := "(IIIII)I" } : Jvm.MethodName)) ∈ zWs := kw_of 453 (by decide +kernel) rfl
theorem kw_454 : (Jvm.Cond.selects "StarLess" ({ cls := "StarLess", name := "copy", desc := "(IIIII)I" } : Jvm.MethodName) ({ cls := "StarLess", name := "copy", desc := "(IIIII)I" } : Jvm.MethodName)) ∈ zWs := kw_of 454 (by decide +kernel) rfl
theorem kw_455 : (Jvm.Cond.code ({ cls := "StarLess", name := "copy", desc := "(IIIII)I" } : Jvm.MethodName) prog_1_method_24_code (6 : Nat) (Option.some Jvm.ClassFile.FieldType.int)) ∈ zWs := kw_of 455 (by decide +kernel) rfl
theorem kw_456 : (Jvm.Cond.methodLink "StarLess" (217 : Nat) ({ cls := "java/lang/System", name := "arraycopy", desc := "(Ljava/lang/Object;ILjava/lang/Object;II)V" } : Jvm.MethodName)) ∈ zWs := kw_of 456 (by decide +kernel) rfl
theorem kw_457 : (Jvm.Cond.static ({ cls := "java/lang/System", name := "arraycopy", desc := "(Ljava/lang/Object;ILjava/lang/Object;II)V" } : Jvm.MethodName)) ∈ zWs := kw_of 457 (by decide +kernel) rfl
theorem kw_458 : (Jvm.Cond.native ({ cls := "java/lang/System", name := "arraycopy", desc := "(Ljava/lang/Object;ILjava/lang/Object;II)V" } : Jvm.MethodName)) ∈ zWs := kw_of 458 (by decide +kernel) rfl
theorem kw_459 : (Jvm.Cond.methodLink "StarLessLaw" (115 : Nat) ({ cls := "StarLess", name := "tell", desc := "(I)I" } : Jvm.MethodName)) ∈ zWs := kw_of 459 (by decide +kernel) rfl
theorem kw_460 : (Jvm.Cond.instanceMethod ({ cls := "StarLess", name := "tell", desc := "(I)I" } : Jvm.MethodName)) ∈ zWs := kw_of 460 (by decide +kernel) rfl
theorem kw_461 : (Jvm.Cond.selects "StarLess" ({ cls := "StarLess", name := "tell", desc := "(I)I" } : Jvm.MethodName) ({ cls := "StarLess", name := "tell", desc := "(I)I" } : Jvm.MethodName)) ∈ zWs := kw_of 461 (by decide +kernel) rfl
theorem kw_462 : (Jvm.Cond.code ({ cls := "StarLess", name := "tell", desc := "(I)I" } : Jvm.MethodName) prog_1_method_25_code (2 : Nat) (Option.some Jvm.ClassFile.FieldType.int)) ∈ zWs := kw_of 462 (by decide +kernel) rfl
theorem kw_463 : (Jvm.Cond.methodLink "StarLess" (223 : Nat) ({ cls := "StarLess", name := "tellAsPoet", desc := "(I)I" } : Jvm.MethodName)) ∈ zWs := kw_of 463 (by decide +kernel) rfl
theorem kw_465 : (Jvm.Cond.instanceMethod ({ cls := "StarLess", name := "tellAsPoet", desc := "(I)I" } : Jvm.MethodName)) ∈ zWs := kw_of 465 (by decide +kernel) rfl
theorem kw_466 : (Jvm.Cond.code ({ cls := "StarLess", name := "tellAsPoet", desc := "(I)I" } : Jvm.MethodName) prog_1_method_44_code (3 : Nat) (Option.some Jvm.ClassFile.FieldType.int)) ∈ zWs := kw_of 466 (by decide +kernel) rfl
theorem kw_467 : (Jvm.Cond.methodLink "StarLess" (232 : Nat) ({ cls := "StarLess", name := "leave", desc := "(I)V" } : Jvm.MethodName)) ∈ zWs := kw_of 467 (by decide +kernel) rfl
theorem kw_469 : (Jvm.Cond.instanceMethod ({ cls := "StarLess", name := "leave", desc := "(I)V" } : Jvm.MethodName)) ∈ zWs := kw_of 469 (by decide +kernel) rfl
theorem kw_470 : (Jvm.Cond.code ({ cls := "StarLess", name := "leave", desc := "(I)V" } : Jvm.MethodName) prog_1_method_41_code (2 : Nat) (Option.none : Option Jvm.ClassFile.FieldType)) ∈ zWs := kw_of 470 (by decide +kernel) rfl
theorem kw_471 : (Jvm.Cond.methodLink "StarLess" (226 : Nat) ({ cls := "StarLess", name := "tellAsCritic", desc := "(I)I" } : Jvm.MethodName)) ∈ zWs := kw_of 471 (by decide +kernel) rfl
theorem kw_473 : (Jvm.Cond.instanceMethod ({ cls := "StarLess", name := "tellAsCritic", desc := "(I)I" } : Jvm.MethodName)) ∈ zWs := kw_of 473 (by decide +kernel) rfl
theorem kw_474 : (Jvm.Cond.code ({ cls := "StarLess", name := "tellAsCritic", desc := "(I)I" } : Jvm.MethodName) prog_1_method_43_code (2 : Nat) (Option.some Jvm.ClassFile.FieldType.int)) ∈ zWs := kw_of 474 (by decide +kernel) rfl
theorem kw_475 : (Jvm.Cond.methodLink "StarLess" (229 : Nat) ({ cls := "StarLess", name := "tellAsGuest", desc := "(I)I" } : Jvm.MethodName)) ∈ zWs := kw_of 475 (by decide +kernel) rfl
theorem kw_477 : (Jvm.Cond.instanceMethod ({ cls := "StarLess", name := "tellAsGuest", desc := "(I)I" } : Jvm.MethodName)) ∈ zWs := kw_of 477 (by decide +kernel) rfl
theorem kw_478 : (Jvm.Cond.code ({ cls := "StarLess", name := "tellAsGuest", desc := "(I)I" } : Jvm.MethodName) prog_1_method_42_code (2 : Nat) (Option.some Jvm.ClassFile.FieldType.int)) ∈ zWs := kw_of 478 (by decide +kernel) rfl
theorem kw_479 : (Jvm.Cond.methodLink "StarLessLaw" (119 : Nat) ({ cls := "StarLess", name := "greet", desc := "(I)I" } : Jvm.MethodName)) ∈ zWs := kw_of 479 (by decide +kernel) rfl
theorem kw_480 : (Jvm.Cond.instanceMethod ({ cls := "StarLess", name := "greet", desc := "(I)I" } : Jvm.MethodName)) ∈ zWs := kw_of 480 (by decide +kernel) rfl
theorem kw_481 : (Jvm.Cond.selects "StarLess" ({ cls := "StarLess", name := "greet", desc := "(I)I" } : Jvm.MethodName) ({ cls := "StarLess", name := "greet", desc := "(I)I" } : Jvm.MethodName)) ∈ zWs := kw_of 481 (by decide +kernel) rfl
theorem kw_482 : (Jvm.Cond.code ({ cls := "StarLess", name := "greet", desc := "(I)I" } : Jvm.MethodName) prog_1_method_26_code (2 : Nat) (Option.some Jvm.ClassFile.FieldType.int)) ∈ zWs := kw_of 482 (by decide +kernel) rfl
theorem kw_483 : (Jvm.Cond.methodLink "StarLessLaw" (123 : Nat) ({ cls := "StarLess", name := "as", desc := "(II)I" } : Jvm.MethodName)) ∈ zWs := kw_of 483 (by decide +kernel) rfl
theorem kw_484 : (Jvm.Cond.instanceMethod ({ cls := "StarLess", name := "as", desc := "(II)I" } : Jvm.MethodName)) ∈ zWs := kw_of 484 (by decide +kernel) rfl
theorem kw_485 : (Jvm.Cond.selects "StarLess" ({ cls := "StarLess", name := "as", desc := "(II)I" } : Jvm.MethodName) ({ cls := "StarLess", name := "as", desc := "(II)I" } : Jvm.MethodName)) ∈ zWs := kw_of 485 (by decide +kernel) rfl
theorem kw_486 : (Jvm.Cond.code ({ cls := "StarLess", name := "as", desc := "(II)I" } : Jvm.MethodName) prog_1_method_27_code (3 : Nat) (Option.some Jvm.ClassFile.FieldType.int)) ∈ zWs := kw_of 486 (by decide +kernel) rfl
theorem kw_487 : (Jvm.Cond.methodLink "StarLessLaw" (127 : Nat) ({ cls := "StarLess", name := "trace", desc := "()I" } : Jvm.MethodName)) ∈ zWs := kw_of 487 (by decide +kernel) rfl
theorem kw_488 : (Jvm.Cond.instanceMethod ({ cls := "StarLess", name := "trace", desc := "()I" } : Jvm.MethodName)) ∈ zWs := kw_of 488 (by decide +kernel) rfl
theorem kw_489 : (Jvm.Cond.selects "StarLess" ({ cls := "StarLess", name := "trace", desc := "()I" } : Jvm.MethodName) ({ cls := "StarLess", name := "trace", desc := "()I" } : Jvm.MethodName)) ∈ zWs := kw_of 489 (by decide +kernel) rfl
theorem kw_490 : (Jvm.Cond.code ({ cls := "StarLess", name := "trace", desc := "()I" } : Jvm.MethodName) prog_1_method_28_code (1 : Nat) (Option.some Jvm.ClassFile.FieldType.int)) ∈ zWs := kw_of 490 (by decide +kernel) rfl
theorem kw_491 : (Jvm.Cond.methodLink "StarLessLaw" (131 : Nat) ({ cls := "StarLess", name := "fault", desc := "()I" } : Jvm.MethodName)) ∈ zWs := kw_of 491 (by decide +kernel) rfl
theorem kw_492 : (Jvm.Cond.instanceMethod ({ cls := "StarLess", name := "fault", desc := "()I" } : Jvm.MethodName)) ∈ zWs := kw_of 492 (by decide +kernel) rfl
theorem kw_493 : (Jvm.Cond.selects "StarLess" ({ cls := "StarLess", name := "fault", desc := "()I" } : Jvm.MethodName) ({ cls := "StarLess", name := "fault", desc := "()I" } : Jvm.MethodName)) ∈ zWs := kw_of 493 (by decide +kernel) rfl
theorem kw_494 : (Jvm.Cond.code ({ cls := "StarLess", name := "fault", desc := "()I" } : Jvm.MethodName) prog_1_method_29_code (1 : Nat) (Option.some Jvm.ClassFile.FieldType.int)) ∈ zWs := kw_of 494 (by decide +kernel) rfl
theorem kw_495 : (Jvm.Cond.methodLink "StarLessLaw" (135 : Nat) ({ cls := "StarLess", name := "many", desc := "(I)I" } : Jvm.MethodName)) ∈ zWs := kw_of 495 (by decide +kernel) rfl
theorem kw_496 : (Jvm.Cond.instanceMethod ({ cls := "StarLess", name := "many", desc := "(I)I" } : Jvm.MethodName)) ∈ zWs := kw_of 496 (by decide +kernel) rfl
theorem kw_497 : (Jvm.Cond.selects "StarLess" ({ cls := "StarLess", name := "many", desc := "(I)I" } : Jvm.MethodName) ({ cls := "StarLess", name := "many", desc := "(I)I" } : Jvm.MethodName)) ∈ zWs := kw_of 497 (by decide +kernel) rfl
theorem kw_498 : (Jvm.Cond.code ({ cls := "StarLess", name := "many", desc := "(I)I" } : Jvm.MethodName) prog_1_method_30_code (2 : Nat) (Option.some Jvm.ClassFile.FieldType.int)) ∈ zWs := kw_of 498 (by decide +kernel) rfl
theorem kw_499 : (Jvm.Cond.classLink "StarLessLaw" (10 : Nat) "StarLessModel") ∈ zWs := kw_of 499 (by decide +kernel) rfl
theorem kw_500 : (Jvm.Cond.instantiable "StarLessModel" (38 : Nat)) ∈ zWs := kw_of 500 (by decide +kernel) rfl
theorem kw_501 : (Jvm.Cond.methodLink "StarLessLaw" (12 : Nat) ({ cls := "StarLessModel", name := "<init>", desc := "()V" } : Jvm.MethodName)) ∈ zWs := kw_of 501 (by decide +kernel) rfl
theorem kw_502 : (Jvm.Cond.instanceMethod ({ cls := "StarLessModel", name := "<init>", desc := "()V" } : Jvm.MethodName)) ∈ zWs := kw_of 502 (by decide +kernel) rfl
theorem kw_503 : (Jvm.Cond.code ({ cls := "StarLessModel", name := "<init>", desc := "()V" } : Jvm.MethodName) prog_9_method_1_code (2 : Nat) (Option.none : Option Jvm.ClassFile.FieldType)) ∈ zWs := kw_of 503 (by decide +kernel) rfl
theorem kw_504 : (Jvm.Cond.methodLink "StarLessModel" (1 : Nat) ({ cls := "java/lang/Object", name := "<init>", desc := "()V" } : Jvm.MethodName)) ∈ zWs := kw_of 504 (by decide +kernel) rfl
theorem kw_505 : (Jvm.Cond.fieldLink "StarLessModel" (67 : Nat) "StarLessModel" "fault" "I") ∈ zWs := kw_of 505 (by decide +kernel) rfl
theorem kw_506 : (Jvm.Cond.fieldLink "StarLessModel" (139 : Nat) "StarLessModel" "starsNow" "I") ∈ zWs := kw_of 506 (by decide +kernel) rfl
theorem kw_507 : (Jvm.Cond.fieldLink "StarLessModel" (142 : Nat) "StarLessModel" "strictNow" "I") ∈ zWs := kw_of 507 (by decide +kernel) rfl
theorem kw_508 : (Jvm.Cond.fieldLink "StarLessModel" (82 : Nat) "StarLessModel" "doings" "I") ∈ zWs := kw_of 508 (by decide +kernel) rfl
theorem kw_509 : (Jvm.Cond.fieldLink "StarLessModel" (7 : Nat) "StarLessModel" "charmOf" "[I") ∈ zWs := kw_of 509 (by decide +kernel) rfl
theorem kw_510 : (Jvm.Cond.fieldLink "StarLessModel" (13 : Nat) "StarLessModel" "costOf" "[I") ∈ zWs := kw_of 510 (by decide +kernel) rfl
theorem kw_511 : (Jvm.Cond.fieldLink "StarLessModel" (75 : Nat) "StarLessModel" "guests" "I") ∈ zWs := kw_of 511 (by decide +kernel) rfl
theorem kw_512 : (Jvm.Cond.fieldLink "StarLessModel" (16 : Nat) "StarLessModel" "kindOf" "[I") ∈ zWs := kw_of 512 (by decide +kernel) rfl
theorem kw_513 : (Jvm.Cond.fieldLink "StarLessModel" (19 : Nat) "StarLessModel" "tasteOf" "[I") ∈ zWs := kw_of 513 (by decide +kernel) rfl
theorem kw_514 : (Jvm.Cond.fieldLink "StarLessModel" (22 : Nat) "StarLessModel" "lovesOf" "[I") ∈ zWs := kw_of 514 (by decide +kernel) rfl
theorem kw_515 : (Jvm.Cond.fieldLink "StarLessModel" (85 : Nat) "StarLessModel" "readAt" "I") ∈ zWs := kw_of 515 (by decide +kernel) rfl
theorem kw_516 : (Jvm.Cond.fieldLink "StarLessModel" (102 : Nat) "StarLessModel" "readStars" "I") ∈ zWs := kw_of 516 (by decide +kernel) rfl
theorem kw_517 : (Jvm.Cond.fieldLink "StarLessModel" (105 : Nat) "StarLessModel" "readStrict" "I") ∈ zWs := kw_of 517 (by decide +kernel) rfl
theorem kw_518 : (Jvm.Cond.fieldLink "StarLessModel" (92 : Nat) "StarLessModel" "readDoings" "I") ∈ zWs := kw_of 518 (by decide +kernel) rfl
theorem kw_519 : (Jvm.Cond.fieldLink "StarLessModel" (99 : Nat) "StarLessModel" "readGuests" "I") ∈ zWs := kw_of 519 (by decide +kernel) rfl
theorem kw_520 : (Jvm.Cond.fieldLink "StarLessModel" (25 : Nat) "StarLessModel" "readCharm" "[I") ∈ zWs := kw_of 520 (by decide +kernel) rfl
theorem kw_521 : (Jvm.Cond.fieldLink "StarLessModel" (28 : Nat) "StarLessModel" "readCost" "[I") ∈ zWs := kw_of 521 (by decide +kernel) rfl
theorem kw_522 : (Jvm.Cond.fieldLink "StarLessModel" (31 : Nat) "StarLessModel" "readKind" "[I") ∈ zWs := kw_of 522 (by decide +kernel) rfl
theorem kw_523 : (Jvm.Cond.fieldLink "StarLessModel" (34 : Nat) "StarLessModel" "readTaste" "[I") ∈ zWs := kw_of 523 (by decide +kernel) rfl
theorem kw_524 : (Jvm.Cond.fieldLink "StarLessModel" (37 : Nat) "StarLessModel" "readLoves" "[I") ∈ zWs := kw_of 524 (by decide +kernel) rfl
theorem kw_525 : (Jvm.Cond.fieldLink "StarLessModel" (167 : Nat) "StarLessModel" "firstWrong" "I") ∈ zWs := kw_of 525 (by decide +kernel) rfl
theorem kw_526 : (Jvm.Cond.fieldLink "StarLessModel" (170 : Nat) "StarLessModel" "leftNow" "I") ∈ zWs := kw_of 526 (by decide +kernel) rfl
theorem kw_527 : (Jvm.Cond.fieldLink "StarLessModel" (173 : Nat) "StarLessModel" "starsThen" "I") ∈ zWs := kw_of 527 (by decide +kernel) rfl
theorem kw_528 : (Jvm.Cond.fieldLink "StarLessModel" (176 : Nat) "StarLessModel" "emptyAt" "I") ∈ zWs := kw_of 528 (by decide +kernel) rfl
theorem kw_529 : (Jvm.Cond.fieldLink "StarLessModel" (179 : Nat) "StarLessModel" "pleasure" "I") ∈ zWs := kw_of 529 (by decide +kernel) rfl
theorem kw_530 : (Jvm.Cond.fieldLink "StarLessModel" (40 : Nat) "StarLessModel" "doesRow" "[I") ∈ zWs := kw_of 530 (by decide +kernel) rfl
theorem kw_531 : (Jvm.Cond.fieldLink "StarLessModel" (203 : Nat) "StarLessModel" "rowCost" "I") ∈ zWs := kw_of 531 (by decide +kernel) rfl
theorem kw_532 : (Jvm.Cond.fieldLink "StarLessModel" (206 : Nat) "StarLessModel" "rowLost" "I") ∈ zWs := kw_of 532 (by decide +kernel) rfl
theorem kw_533 : (Jvm.Cond.fieldLink "StarLessModel" (209 : Nat) "StarLessModel" "rowPleased" "I") ∈ zWs := kw_of 533 (by decide +kernel) rfl
theorem kw_534 : (Jvm.Cond.fieldLink "StarLessModel" (145 : Nat) "StarLessModel" "readings" "I") ∈ zWs := kw_of 534 (by decide +kernel) rfl
theorem kw_535 : (Jvm.Cond.fieldLink "StarLessModel" (43 : Nat) "StarLessModel" "readingOf" "[I") ∈ zWs := kw_of 535 (by decide +kernel) rfl
theorem kw_536 : (Jvm.Cond.fieldLink "StarLessModel" (46 : Nat) "StarLessModel" "readingBy" "[I") ∈ zWs := kw_of 536 (by decide +kernel) rfl
theorem kw_537 : (Jvm.Cond.fieldLink "StarLessModel" (49 : Nat) "StarLessModel" "readingLost" "[Z") ∈ zWs := kw_of 537 (by decide +kernel) rfl
theorem kw_538 : (Jvm.Cond.fieldLink "StarLessModel" (53 : Nat) "StarLessModel" "sheetSize" "[I") ∈ zWs := kw_of 538 (by decide +kernel) rfl
theorem kw_539 : (Jvm.Cond.fieldLink "StarLessModel" (56 : Nat) "StarLessModel" "sheetLane" "[I") ∈ zWs := kw_of 539 (by decide +kernel) rfl
theorem kw_540 : (Jvm.Cond.fieldLink "StarLessModel" (59 : Nat) "StarLessModel" "sheet" "[I") ∈ zWs := kw_of 540 (by decide +kernel) rfl
theorem kw_541 : (Jvm.Cond.fieldLink "StarLessModel" (62 : Nat) "StarLessModel" "hands" "[I") ∈ zWs := kw_of 541 (by decide +kernel) rfl
theorem kw_542 : (Jvm.Cond.fieldLink "StarLessModel" (236 : Nat) "StarLessModel" "traceNow" "I") ∈ zWs := kw_of 542 (by decide +kernel) rfl
theorem kw_620 : (Jvm.Cond.methodLink "StarLessLaw" (17 : Nat) ({ cls := "StarLessModel", name := "hotel", desc := "(IIII)I" } : Jvm.MethodName)) ∈ zWs := kw_of 620 (by decide +kernel) rfl
theorem kw_621 : (Jvm.Cond.instanceMethod ({ cls := "StarLessModel", name := "hotel", desc := "(IIII)I" } : Jvm.MethodName)) ∈ zWs := kw_of 621 (by decide +kernel) rfl
theorem kw_622 : (Jvm.Cond.selects "StarLessModel" ({ cls := "StarLessModel", name := "hotel", desc := "(IIII)I" } : Jvm.MethodName) ({ cls := "StarLessModel", name := "hotel", desc := "(IIII)I" } : Jvm.MethodName)) ∈ zWs := kw_of 622 (by decide +kernel) rfl
theorem kw_623 : (Jvm.Cond.code ({ cls := "StarLessModel", name := "hotel", desc := "(IIII)I" } : Jvm.MethodName) prog_9_method_18_code (7 : Nat) (Option.some Jvm.ClassFile.FieldType.int)) ∈ zWs := kw_of 623 (by decide +kernel) rfl
theorem kw_624 : (Jvm.Cond.methodLink "StarLessModel" (123 : Nat) ({ cls := "StarLessModel", name := "noSheet", desc := "(I)Z" } : Jvm.MethodName)) ∈ zWs := kw_of 624 (by decide +kernel) rfl
theorem kw_625 : (Jvm.Cond.static ({ cls := "StarLessModel", name := "noSheet", desc := "(I)Z" } : Jvm.MethodName)) ∈ zWs := kw_of 625 (by decide +kernel) rfl
theorem kw_626 : (Jvm.Cond.code ({ cls := "StarLessModel", name := "noSheet", desc := "(I)Z" } : Jvm.MethodName) prog_9_method_45_code (1 : Nat) (Option.some Jvm.ClassFile.FieldType.boolean)) ∈ zWs := kw_of 626 (by decide +kernel) rfl
theorem kw_627 : (Jvm.Cond.constantLong "StarLessModel" (227 : Nat) (3 : Int64)) ∈ zWs := kw_of 627 (by decide +kernel) rfl
theorem kw_628 : (Jvm.Cond.methodLink "StarLessModel" (78 : Nat) ({ cls := "StarLessModel", name := "in", desc := "(JJJ)Z" } : Jvm.MethodName)) ∈ zWs := kw_of 628 (by decide +kernel) rfl
theorem kw_629 : (Jvm.Cond.static ({ cls := "StarLessModel", name := "in", desc := "(JJJ)Z" } : Jvm.MethodName)) ∈ zWs := kw_of 629 (by decide +kernel) rfl
theorem kw_630 : (Jvm.Cond.code ({ cls := "StarLessModel", name := "in", desc := "(JJJ)Z" } : Jvm.MethodName) prog_9_method_2_code (6 : Nat) (Option.some Jvm.ClassFile.FieldType.boolean)) ∈ zWs := kw_of 630 (by decide +kernel) rfl
theorem kw_631 : (Jvm.Cond.methodLink "StarLessModel" (127 : Nat) ({ cls := "StarLessModel", name := "refused", desc := "(I)I" } : Jvm.MethodName)) ∈ zWs := kw_of 631 (by decide +kernel) rfl
theorem kw_633 : (Jvm.Cond.instanceMethod ({ cls := "StarLessModel", name := "refused", desc := "(I)I" } : Jvm.MethodName)) ∈ zWs := kw_of 633 (by decide +kernel) rfl
theorem kw_634 : (Jvm.Cond.code ({ cls := "StarLessModel", name := "refused", desc := "(I)I" } : Jvm.MethodName) prog_9_method_6_code (2 : Nat) (Option.some Jvm.ClassFile.FieldType.int)) ∈ zWs := kw_of 634 (by decide +kernel) rfl
theorem kw_635 : (Jvm.Cond.constantLong "StarLessModel" (130 : Nat) (2 : Int64)) ∈ zWs := kw_of 635 (by decide +kernel) rfl
theorem kw_636 : (Jvm.Cond.methodLink "StarLessModel" (132 : Nat) ({ cls := "StarLessModel", name := "cellsBarred", desc := "(IIIJ)I" } : Jvm.MethodName)) ∈ zWs := kw_of 636 (by decide +kernel) rfl
theorem kw_638 : (Jvm.Cond.instanceMethod ({ cls := "StarLessModel", name := "cellsBarred", desc := "(IIIJ)I" } : Jvm.MethodName)) ∈ zWs := kw_of 638 (by decide +kernel) rfl
theorem kw_639 : (Jvm.Cond.code ({ cls := "StarLessModel", name := "cellsBarred", desc := "(IIIJ)I" } : Jvm.MethodName) prog_9_method_17_code (6 : Nat) (Option.some Jvm.ClassFile.FieldType.int)) ∈ zWs := kw_of 639 (by decide +kernel) rfl
theorem kw_640 : (Jvm.Cond.methodLink "StarLessModel" (115 : Nat) ({ cls := "StarLessModel", name := "failed", desc := "(I)I" } : Jvm.MethodName)) ∈ zWs := kw_of 640 (by decide +kernel) rfl
theorem kw_642 : (Jvm.Cond.instanceMethod ({ cls := "StarLessModel", name := "failed", desc := "(I)I" } : Jvm.MethodName)) ∈ zWs := kw_of 642 (by decide +kernel) rfl
theorem kw_643 : (Jvm.Cond.code ({ cls := "StarLessModel", name := "failed", desc := "(I)I" } : Jvm.MethodName) prog_9_method_7_code (2 : Nat) (Option.some Jvm.ClassFile.FieldType.int)) ∈ zWs := kw_of 643 (by decide +kernel) rfl
theorem kw_644 : (Jvm.Cond.methodLink "StarLessModel" (119 : Nat) ({ cls := "StarLessModel", name := "isBeyond", desc := "(IJI)Z" } : Jvm.MethodName)) ∈ zWs := kw_of 644 (by decide +kernel) rfl
theorem kw_645 : (Jvm.Cond.static ({ cls := "StarLessModel", name := "isBeyond", desc := "(IJI)Z" } : Jvm.MethodName)) ∈ zWs := kw_of 645 (by decide +kernel) rfl
theorem kw_646 : (Jvm.Cond.code ({ cls := "StarLessModel", name := "isBeyond", desc := "(IJI)Z" } : Jvm.MethodName) prog_9_method_51_code (4 : Nat) (Option.some Jvm.ClassFile.FieldType.boolean)) ∈ zWs := kw_of 646 (by decide +kernel) rfl
theorem kw_647 : (Jvm.Cond.methodLink "StarLessModel" (136 : Nat) ({ cls := "StarLessModel", name := "readsHotel", desc := "(II)Z" } : Jvm.MethodName)) ∈ zWs := kw_of 647 (by decide +kernel) rfl
theorem kw_649 : (Jvm.Cond.instanceMethod ({ cls := "StarLessModel", name := "readsHotel", desc := "(II)Z" } : Jvm.MethodName)) ∈ zWs := kw_of 649 (by decide +kernel) rfl
theorem kw_650 : (Jvm.Cond.code ({ cls := "StarLessModel", name := "readsHotel", desc := "(II)Z" } : Jvm.MethodName) prog_9_method_16_code (4 : Nat) (Option.some Jvm.ClassFile.FieldType.boolean)) ∈ zWs := kw_of 650 (by decide +kernel) rfl
theorem kw_651 : (Jvm.Cond.methodLink "StarLessModel" (88 : Nat) ({ cls := "StarLessModel", name := "codeAt", desc := "(II)I" } : Jvm.MethodName)) ∈ zWs := kw_of 651 (by decide +kernel) rfl
theorem kw_653 : (Jvm.Cond.instanceMethod ({ cls := "StarLessModel", name := "codeAt", desc := "(II)I" } : Jvm.MethodName)) ∈ zWs := kw_of 653 (by decide +kernel) rfl
theorem kw_654 : (Jvm.Cond.code ({ cls := "StarLessModel", name := "codeAt", desc := "(II)I" } : Jvm.MethodName) prog_9_method_12_code (3 : Nat) (Option.some Jvm.ClassFile.FieldType.int)) ∈ zWs := kw_of 654 (by decide +kernel) rfl
theorem kw_655 : (Jvm.Cond.methodLink "StarLessModel" (95 : Nat) ({ cls := "StarLessModel", name := "figure", desc := "(IIII)I" } : Jvm.MethodName)) ∈ zWs := kw_of 655 (by decide +kernel) rfl
theorem kw_657 : (Jvm.Cond.instanceMethod ({ cls := "StarLessModel", name := "figure", desc := "(IIII)I" } : Jvm.MethodName)) ∈ zWs := kw_of 657 (by decide +kernel) rfl
theorem kw_658 : (Jvm.Cond.code ({ cls := "StarLessModel", name := "figure", desc := "(IIII)I" } : Jvm.MethodName) prog_9_method_13_code (7 : Nat) (Option.some Jvm.ClassFile.FieldType.int)) ∈ zWs := kw_of 658 (by decide +kernel) rfl
theorem kw_659 : (Jvm.Cond.methodLink "StarLessModel" (108 : Nat) ({ cls := "StarLessModel", name := "readsDoing", desc := "(II)Z" } : Jvm.MethodName)) ∈ zWs := kw_of 659 (by decide +kernel) rfl
theorem kw_661 : (Jvm.Cond.instanceMethod ({ cls := "StarLessModel", name := "readsDoing", desc := "(II)Z" } : Jvm.MethodName)) ∈ zWs := kw_of 661 (by decide +kernel) rfl
theorem kw_662 : (Jvm.Cond.code ({ cls := "StarLessModel", name := "readsDoing", desc := "(II)Z" } : Jvm.MethodName) prog_9_method_14_code (5 : Nat) (Option.some Jvm.ClassFile.FieldType.boolean)) ∈ zWs := kw_of 662 (by decide +kernel) rfl
theorem kw_663 : (Jvm.Cond.methodLink "StarLessModel" (112 : Nat) ({ cls := "StarLessModel", name := "readsGuest", desc := "(II)Z" } : Jvm.MethodName)) ∈ zWs := kw_of 663 (by decide +kernel) rfl
theorem kw_665 : (Jvm.Cond.instanceMethod ({ cls := "StarLessModel", name := "readsGuest", desc := "(II)Z" } : Jvm.MethodName)) ∈ zWs := kw_of 665 (by decide +kernel) rfl
theorem kw_666 : (Jvm.Cond.code ({ cls := "StarLessModel", name := "readsGuest", desc := "(II)Z" } : Jvm.MethodName) prog_9_method_15_code (6 : Nat) (Option.some Jvm.ClassFile.FieldType.boolean)) ∈ zWs := kw_of 666 (by decide +kernel) rfl
theorem kw_667 : (Jvm.Cond.methodLink "StarLessLaw" (22 : Nat) ({ cls := "StarLessModel", name := "ofGuest", desc := "(II)I" } : Jvm.MethodName)) ∈ zWs := kw_of 667 (by decide +kernel) rfl
theorem kw_668 : (Jvm.Cond.instanceMethod ({ cls := "StarLessModel", name := "ofGuest", desc := "(II)I" } : Jvm.MethodName)) ∈ zWs := kw_of 668 (by decide +kernel) rfl
theorem kw_669 : (Jvm.Cond.selects "StarLessModel" ({ cls := "StarLessModel", name := "ofGuest", desc := "(II)I" } : Jvm.MethodName) ({ cls := "StarLessModel", name := "ofGuest", desc := "(II)I" } : Jvm.MethodName)) ∈ zWs := kw_of 669 (by decide +kernel) rfl
theorem kw_670 : (Jvm.Cond.code ({ cls := "StarLessModel", name := "ofGuest", desc := "(II)I" } : Jvm.MethodName) prog_9_method_22_code (3 : Nat) (Option.some Jvm.ClassFile.FieldType.int)) ∈ zWs := kw_of 670 (by decide +kernel) rfl
theorem kw_671 : (Jvm.Cond.methodLink "StarLessModel" (154 : Nat) ({ cls := "StarLessModel", name := "noGuest", desc := "(I)Z" } : Jvm.MethodName)) ∈ zWs := kw_of 671 (by decide +kernel) rfl
theorem kw_673 : (Jvm.Cond.instanceMethod ({ cls := "StarLessModel", name := "noGuest", desc := "(I)Z" } : Jvm.MethodName)) ∈ zWs := kw_of 673 (by decide +kernel) rfl
theorem kw_674 : (Jvm.Cond.code ({ cls := "StarLessModel", name := "noGuest", desc := "(I)Z" } : Jvm.MethodName) prog_9_method_9_code (2 : Nat) (Option.some Jvm.ClassFile.FieldType.boolean)) ∈ zWs := kw_of 674 (by decide +kernel) rfl
theorem kw_675 : (Jvm.Cond.methodLink "StarLessLaw" (26 : Nat) ({ cls := "StarLessModel", name := "ofDoing", desc := "(II)I" } : Jvm.MethodName)) ∈ zWs := kw_of 675 (by decide +kernel) rfl
theorem kw_676 : (Jvm.Cond.instanceMethod ({ cls := "StarLessModel", name := "ofDoing", desc := "(II)I" } : Jvm.MethodName)) ∈ zWs := kw_of 676 (by decide +kernel) rfl
theorem kw_677 : (Jvm.Cond.selects "StarLessModel" ({ cls := "StarLessModel", name := "ofDoing", desc := "(II)I" } : Jvm.MethodName) ({ cls := "StarLessModel", name := "ofDoing", desc := "(II)I" } : Jvm.MethodName)) ∈ zWs := kw_of 677 (by decide +kernel) rfl
theorem kw_678 : (Jvm.Cond.code ({ cls := "StarLessModel", name := "ofDoing", desc := "(II)I" } : Jvm.MethodName) prog_9_method_23_code (3 : Nat) (Option.some Jvm.ClassFile.FieldType.int)) ∈ zWs := kw_of 678 (by decide +kernel) rfl
theorem kw_679 : (Jvm.Cond.methodLink "StarLessModel" (157 : Nat) ({ cls := "StarLessModel", name := "noDoing", desc := "(I)Z" } : Jvm.MethodName)) ∈ zWs := kw_of 679 (by decide +kernel) rfl
theorem kw_681 : (Jvm.Cond.instanceMethod ({ cls := "StarLessModel", name := "noDoing", desc := "(I)Z" } : Jvm.MethodName)) ∈ zWs := kw_of 681 (by decide +kernel) rfl
theorem kw_682 : (Jvm.Cond.code ({ cls := "StarLessModel", name := "noDoing", desc := "(I)Z" } : Jvm.MethodName) prog_9_method_10_code (2 : Nat) (Option.some Jvm.ClassFile.FieldType.boolean)) ∈ zWs := kw_of 682 (by decide +kernel) rfl
theorem kw_683 : (Jvm.Cond.methodLink "StarLessModel" (160 : Nat) ({ cls := "StarLessModel", name := "losersOf", desc := "(I)I" } : Jvm.MethodName)) ∈ zWs := kw_of 683 (by decide +kernel) rfl
theorem kw_685 : (Jvm.Cond.instanceMethod ({ cls := "StarLessModel", name := "losersOf", desc := "(I)I" } : Jvm.MethodName)) ∈ zWs := kw_of 685 (by decide +kernel) rfl
theorem kw_686 : (Jvm.Cond.code ({ cls := "StarLessModel", name := "losersOf", desc := "(I)I" } : Jvm.MethodName) prog_9_method_21_code (4 : Nat) (Option.some Jvm.ClassFile.FieldType.int)) ∈ zWs := kw_of 686 (by decide +kernel) rfl
theorem kw_687 : (Jvm.Cond.methodLink "StarLessModel" (151 : Nat) ({ cls := "StarLessModel", name := "doesLose", desc := "(II)Z" } : Jvm.MethodName)) ∈ zWs := kw_of 687 (by decide +kernel) rfl
theorem kw_689 : (Jvm.Cond.instanceMethod ({ cls := "StarLessModel", name := "doesLose", desc := "(II)Z" } : Jvm.MethodName)) ∈ zWs := kw_of 689 (by decide +kernel) rfl
theorem kw_690 : (Jvm.Cond.code ({ cls := "StarLessModel", name := "doesLose", desc := "(II)Z" } : Jvm.MethodName) prog_9_method_20_code (3 : Nat) (Option.some Jvm.ClassFile.FieldType.boolean)) ∈ zWs := kw_of 690 (by decide +kernel) rfl
theorem kw_691 : (Jvm.Cond.methodLink "StarLessModel" (148 : Nat) ({ cls := "StarLessModel", name := "pleasedBy", desc := "(II)I" } : Jvm.MethodName)) ∈ zWs := kw_of 691 (by decide +kernel) rfl
theorem kw_693 : (Jvm.Cond.instanceMethod ({ cls := "StarLessModel", name := "pleasedBy", desc := "(II)I" } : Jvm.MethodName)) ∈ zWs := kw_of 693 (by decide +kernel) rfl
theorem kw_694 : (Jvm.Cond.code ({ cls := "StarLessModel", name := "pleasedBy", desc := "(II)I" } : Jvm.MethodName) prog_9_method_19_code (5 : Nat) (Option.some Jvm.ClassFile.FieldType.int)) ∈ zWs := kw_of 694 (by decide +kernel) rfl
theorem kw_695 : (Jvm.Cond.methodLink "StarLessLaw" (31 : Nat) ({ cls := "StarLessModel", name := "strict", desc := "(I)I" } : Jvm.MethodName)) ∈ zWs := kw_of 695 (by decide +kernel) rfl
theorem kw_696 : (Jvm.Cond.instanceMethod ({ cls := "StarLessModel", name := "strict", desc := "(I)I" } : Jvm.MethodName)) ∈ zWs := kw_of 696 (by decide +kernel) rfl
theorem kw_697 : (Jvm.Cond.selects "StarLessModel" ({ cls := "StarLessModel", name := "strict", desc := "(I)I" } : Jvm.MethodName) ({ cls := "StarLessModel", name := "strict", desc := "(I)I" } : Jvm.MethodName)) ∈ zWs := kw_of 697 (by decide +kernel) rfl
theorem kw_698 : (Jvm.Cond.code ({ cls := "StarLessModel", name := "strict", desc := "(I)I" } : Jvm.MethodName) prog_9_method_24_code (3 : Nat) (Option.some Jvm.ClassFile.FieldType.int)) ∈ zWs := kw_of 698 (by decide +kernel) rfl
theorem kw_699 : (Jvm.Cond.constantLong "StarLessModel" (163 : Nat) (9 : Int64)) ∈ zWs := kw_of 699 (by decide +kernel) rfl
theorem kw_700 : (Jvm.Cond.methodLink "StarLessLaw" (35 : Nat) ({ cls := "StarLessModel", name := "stars", desc := "(I)I" } : Jvm.MethodName)) ∈ zWs := kw_of 700 (by decide +kernel) rfl
theorem kw_701 : (Jvm.Cond.instanceMethod ({ cls := "StarLessModel", name := "stars", desc := "(I)I" } : Jvm.MethodName)) ∈ zWs := kw_of 701 (by decide +kernel) rfl
theorem kw_702 : (Jvm.Cond.selects "StarLessModel" ({ cls := "StarLessModel", name := "stars", desc := "(I)I" } : Jvm.MethodName) ({ cls := "StarLessModel", name := "stars", desc := "(I)I" } : Jvm.MethodName)) ∈ zWs := kw_of 702 (by decide +kernel) rfl
theorem kw_703 : (Jvm.Cond.code ({ cls := "StarLessModel", name := "stars", desc := "(I)I" } : Jvm.MethodName) prog_9_method_25_code (3 : Nat) (Option.some Jvm.ClassFile.FieldType.int)) ∈ zWs := kw_of 703 (by decide +kernel) rfl
theorem kw_704 : (Jvm.Cond.constantLong "StarLessModel" (165 : Nat) (5 : Int64)) ∈ zWs := kw_of 704 (by decide +kernel) rfl
theorem kw_705 : (Jvm.Cond.methodLink "StarLessLaw" (39 : Nat) ({ cls := "StarLessModel", name := "pleased", desc := "(II)I" } : Jvm.MethodName)) ∈ zWs := kw_of 705 (by decide +kernel) rfl
theorem kw_706 : (Jvm.Cond.instanceMethod ({ cls := "StarLessModel", name := "pleased", desc := "(II)I" } : Jvm.MethodName)) ∈ zWs := kw_of 706 (by decide +kernel) rfl
theorem kw_707 : (Jvm.Cond.selects "StarLessModel" ({ cls := "StarLessModel", name := "pleased", desc := "(II)I" } : Jvm.MethodName) ({ cls := "StarLessModel", name := "pleased", desc := "(II)I" } : Jvm.MethodName)) ∈ zWs := kw_of 707 (by decide +kernel) rfl
theorem kw_708 : (Jvm.Cond.code ({ cls := "StarLessModel", name := "pleased", desc := "(II)I" } : Jvm.MethodName) prog_9_method_26_code (3 : Nat) (Option.some Jvm.ClassFile.FieldType.int)) ∈ zWs := kw_of 708 (by decide +kernel) rfl
theorem kw_709 : (Jvm.Cond.methodLink "StarLessLaw" (44 : Nat) ({ cls := "StarLessModel", name := "season", desc := "(IIIIII)I" } : Jvm.MethodName)) ∈ zWs := kw_of 709 (by decide +kernel) rfl
theorem kw_710 : (Jvm.Cond.instanceMethod ({ cls := "StarLessModel", name := "season", desc := "(IIIIII)I" } : Jvm.MethodName)) ∈ zWs := kw_of 710 (by decide +kernel) rfl
theorem kw_711 : (Jvm.Cond.selects "StarLessModel" ({ cls := "StarLessModel", name := "season", desc := "(IIIIII)I" } : Jvm.MethodName) ({ cls := "StarLessModel", name := "season", desc := "(IIIIII)I" } : Jvm.MethodName)) ∈ zWs := kw_of 711 (by decide +kernel) rfl
theorem kw_712 : (Jvm.Cond.code ({ cls := "StarLessModel", name := "season", desc := "(IIIIII)I" } : Jvm.MethodName) prog_9_method_29_code (8 : Nat) (Option.some Jvm.ClassFile.FieldType.int)) ∈ zWs := kw_of 712 (by decide +kernel) rfl
theorem kw_713 : (Jvm.Cond.constantLong "StarLessModel" (182 : Nat) (20 : Int64)) ∈ zWs := kw_of 713 (by decide +kernel) rfl
theorem kw_714 : (Jvm.Cond.constantLong "StarLessModel" (184 : Nat) (4 : Int64)) ∈ zWs := kw_of 714 (by decide +kernel) rfl
theorem kw_715 : (Jvm.Cond.methodLink "StarLessModel" (186 : Nat) ({ cls := "StarLessModel", name := "pairsBarred", desc := "(IIII)I" } : Jvm.MethodName)) ∈ zWs := kw_of 715 (by decide +kernel) rfl
theorem kw_717 : (Jvm.Cond.instanceMethod ({ cls := "StarLessModel", name := "pairsBarred", desc := "(IIII)I" } : Jvm.MethodName)) ∈ zWs := kw_of 717 (by decide +kernel) rfl
theorem kw_718 : (Jvm.Cond.code ({ cls := "StarLessModel", name := "pairsBarred", desc := "(IIII)I" } : Jvm.MethodName) prog_9_method_28_code (8 : Nat) (Option.some Jvm.ClassFile.FieldType.int)) ∈ zWs := kw_of 718 (by decide +kernel) rfl
theorem kw_719 : (Jvm.Cond.methodLink "StarLessModel" (189 : Nat) ({ cls := "StarLessModel", name := "goSeason", desc := "(III)V" } : Jvm.MethodName)) ∈ zWs := kw_of 719 (by decide +kernel) rfl
theorem kw_721 : (Jvm.Cond.instanceMethod ({ cls := "StarLessModel", name := "goSeason", desc := "(III)V" } : Jvm.MethodName)) ∈ zWs := kw_of 721 (by decide +kernel) rfl
theorem kw_722 : (Jvm.Cond.code ({ cls := "StarLessModel", name := "goSeason", desc := "(III)V" } : Jvm.MethodName) prog_9_method_27_code (8 : Nat) (Option.none : Option Jvm.ClassFile.FieldType)) ∈ zWs := kw_of 722 (by decide +kernel) rfl
theorem kw_723 : (Jvm.Cond.methodLink "StarLessLaw" (49 : Nat) ({ cls := "StarLessModel", name := "may", desc := "(IIIII)I" } : Jvm.MethodName)) ∈ zWs := kw_of 723 (by decide +kernel) rfl
theorem kw_724 : (Jvm.Cond.instanceMethod ({ cls := "StarLessModel", name := "may", desc := "(IIIII)I" } : Jvm.MethodName)) ∈ zWs := kw_of 724 (by decide +kernel) rfl
theorem kw_725 : (Jvm.Cond.selects "StarLessModel" ({ cls := "StarLessModel", name := "may", desc := "(IIIII)I" } : Jvm.MethodName) ({ cls := "StarLessModel", name := "may", desc := "(IIIII)I" } : Jvm.MethodName)) ∈ zWs := kw_of 725 (by decide +kernel) rfl
theorem kw_726 : (Jvm.Cond.code ({ cls := "StarLessModel", name := "may", desc := "(IIIII)I" } : Jvm.MethodName) prog_9_method_31_code (8 : Nat) (Option.some Jvm.ClassFile.FieldType.int)) ∈ zWs := kw_of 726 (by decide +kernel) rfl
theorem kw_727 : (Jvm.Cond.methodLink "StarLessModel" (193 : Nat) ({ cls := "StarLessModel", name := "endingWith", desc := "(IIII)I" } : Jvm.MethodName)) ∈ zWs := kw_of 727 (by decide +kernel) rfl
theorem kw_729 : (Jvm.Cond.instanceMethod ({ cls := "StarLessModel", name := "endingWith", desc := "(IIII)I" } : Jvm.MethodName)) ∈ zWs := kw_of 729 (by decide +kernel) rfl
theorem kw_730 : (Jvm.Cond.code ({ cls := "StarLessModel", name := "endingWith", desc := "(IIII)I" } : Jvm.MethodName) prog_9_method_30_code (7 : Nat) (Option.some Jvm.ClassFile.FieldType.int)) ∈ zWs := kw_of 730 (by decide +kernel) rfl
theorem kw_731 : (Jvm.Cond.methodLink "StarLessLaw" (53 : Nat) ({ cls := "StarLessModel", name := "ask", desc := "(I)I" } : Jvm.MethodName)) ∈ zWs := kw_of 731 (by decide +kernel) rfl
theorem kw_732 : (Jvm.Cond.instanceMethod ({ cls := "StarLessModel", name := "ask", desc := "(I)I" } : Jvm.MethodName)) ∈ zWs := kw_of 732 (by decide +kernel) rfl
theorem kw_733 : (Jvm.Cond.selects "StarLessModel" ({ cls := "StarLessModel", name := "ask", desc := "(I)I" } : Jvm.MethodName) ({ cls := "StarLessModel", name := "ask", desc := "(I)I" } : Jvm.MethodName)) ∈ zWs := kw_of 733 (by decide +kernel) rfl
theorem kw_734 : (Jvm.Cond.code ({ cls := "StarLessModel", name := "ask", desc := "(I)I" } : Jvm.MethodName) prog_9_method_32_code (7 : Nat) (Option.some Jvm.ClassFile.FieldType.int)) ∈ zWs := kw_of 734 (by decide +kernel) rfl
theorem kw_735 : (Jvm.Cond.methodLink "StarLessModel" (196 : Nat) ({ cls := "StarLessModel", name := "everybody", desc := "()I" } : Jvm.MethodName)) ∈ zWs := kw_of 735 (by decide +kernel) rfl
theorem kw_737 : (Jvm.Cond.instanceMethod ({ cls := "StarLessModel", name := "everybody", desc := "()I" } : Jvm.MethodName)) ∈ zWs := kw_of 737 (by decide +kernel) rfl
theorem kw_738 : (Jvm.Cond.code ({ cls := "StarLessModel", name := "everybody", desc := "()I" } : Jvm.MethodName) prog_9_method_11_code (1 : Nat) (Option.some Jvm.ClassFile.FieldType.int)) ∈ zWs := kw_of 738 (by decide +kernel) rfl
theorem kw_739 : (Jvm.Cond.methodLink "StarLessModel" (200 : Nat) ({ cls := "StarLessModel", name := "isIn", desc := "(II)Z" } : Jvm.MethodName)) ∈ zWs := kw_of 739 (by decide +kernel) rfl
theorem kw_740 : (Jvm.Cond.static ({ cls := "StarLessModel", name := "isIn", desc := "(II)Z" } : Jvm.MethodName)) ∈ zWs := kw_of 740 (by decide +kernel) rfl
theorem kw_741 : (Jvm.Cond.code ({ cls := "StarLessModel", name := "isIn", desc := "(II)Z" } : Jvm.MethodName) prog_9_method_4_code (2 : Nat) (Option.some Jvm.ClassFile.FieldType.boolean)) ∈ zWs := kw_of 741 (by decide +kernel) rfl
theorem kw_742 : (Jvm.Cond.methodLink "StarLessLaw" (57 : Nat) ({ cls := "StarLessModel", name := "dull", desc := "(I)I" } : Jvm.MethodName)) ∈ zWs := kw_of 742 (by decide +kernel) rfl
theorem kw_743 : (Jvm.Cond.instanceMethod ({ cls := "StarLessModel", name := "dull", desc := "(I)I" } : Jvm.MethodName)) ∈ zWs := kw_of 743 (by decide +kernel) rfl
theorem kw_744 : (Jvm.Cond.selects "StarLessModel" ({ cls := "StarLessModel", name := "dull", desc := "(I)I" } : Jvm.MethodName) ({ cls := "StarLessModel", name := "dull", desc := "(I)I" } : Jvm.MethodName)) ∈ zWs := kw_of 744 (by decide +kernel) rfl
theorem kw_745 : (Jvm.Cond.code ({ cls := "StarLessModel", name := "dull", desc := "(I)I" } : Jvm.MethodName) prog_9_method_33_code (5 : Nat) (Option.some Jvm.ClassFile.FieldType.int)) ∈ zWs := kw_of 745 (by decide +kernel) rfl
theorem kw_746 : (Jvm.Cond.methodLink "StarLessLaw" (61 : Nat) ({ cls := "StarLessModel", name := "fewest", desc := "(I)I" } : Jvm.MethodName)) ∈ zWs := kw_of 746 (by decide +kernel) rfl
theorem kw_747 : (Jvm.Cond.instanceMethod ({ cls := "StarLessModel", name := "fewest", desc := "(I)I" } : Jvm.MethodName)) ∈ zWs := kw_of 747 (by decide +kernel) rfl
theorem kw_748 : (Jvm.Cond.selects "StarLessModel" ({ cls := "StarLessModel", name := "fewest", desc := "(I)I" } : Jvm.MethodName) ({ cls := "StarLessModel", name := "fewest", desc := "(I)I" } : Jvm.MethodName)) ∈ zWs := kw_of 748 (by decide +kernel) rfl
theorem kw_749 : (Jvm.Cond.code ({ cls := "StarLessModel", name := "fewest", desc := "(I)I" } : Jvm.MethodName) prog_9_method_35_code (8 : Nat) (Option.some Jvm.ClassFile.FieldType.int)) ∈ zWs := kw_of 749 (by decide +kernel) rfl
theorem kw_750 : (Jvm.Cond.methodLink "StarLessModel" (212 : Nat) ({ cls := "StarLessModel", name := "layRow", desc := "(I)V" } : Jvm.MethodName)) ∈ zWs := kw_of 750 (by decide +kernel) rfl
theorem kw_752 : (Jvm.Cond.instanceMethod ({ cls := "StarLessModel", name := "layRow", desc := "(I)V" } : Jvm.MethodName)) ∈ zWs := kw_of 752 (by decide +kernel) rfl
theorem kw_753 : (Jvm.Cond.code ({ cls := "StarLessModel", name := "layRow", desc := "(I)V" } : Jvm.MethodName) prog_9_method_34_code (5 : Nat) (Option.none : Option Jvm.ClassFile.FieldType)) ∈ zWs := kw_of 753 (by decide +kernel) rfl
theorem kw_754 : (Jvm.Cond.methodLink "StarLessLaw" (66 : Nat) ({ cls := "StarLessModel", name := "reading", desc := "(IIZ)I" } : Jvm.MethodName)) ∈ zWs := kw_of 754 (by decide +kernel) rfl
theorem kw_755 : (Jvm.Cond.instanceMethod ({ cls := "StarLessModel", name := "reading", desc := "(IIZ)I" } : Jvm.MethodName)) ∈ zWs := kw_of 755 (by decide +kernel) rfl
theorem kw_756 : (Jvm.Cond.selects "StarLessModel" ({ cls := "StarLessModel", name := "reading", desc := "(IIZ)I" } : Jvm.MethodName) ({ cls := "StarLessModel", name := "reading", desc := "(IIZ)I" } : Jvm.MethodName)) ∈ zWs := kw_of 756 (by decide +kernel) rfl
theorem kw_757 : (Jvm.Cond.code ({ cls := "StarLessModel", name := "reading", desc := "(IIZ)I" } : Jvm.MethodName) prog_9_method_36_code (4 : Nat) (Option.some Jvm.ClassFile.FieldType.int)) ∈ zWs := kw_of 757 (by decide +kernel) rfl
theorem kw_758 : (Jvm.Cond.methodLink "StarLessLaw" (70 : Nat) ({ cls := "StarLessModel", name := "back", desc := "(I)I" } : Jvm.MethodName)) ∈ zWs := kw_of 758 (by decide +kernel) rfl
theorem kw_759 : (Jvm.Cond.instanceMethod ({ cls := "StarLessModel", name := "back", desc := "(I)I" } : Jvm.MethodName)) ∈ zWs := kw_of 759 (by decide +kernel) rfl
theorem kw_760 : (Jvm.Cond.selects "StarLessModel" ({ cls := "StarLessModel", name := "back", desc := "(I)I" } : Jvm.MethodName) ({ cls := "StarLessModel", name := "back", desc := "(I)I" } : Jvm.MethodName)) ∈ zWs := kw_of 760 (by decide +kernel) rfl
theorem kw_761 : (Jvm.Cond.code ({ cls := "StarLessModel", name := "back", desc := "(I)I" } : Jvm.MethodName) prog_9_method_37_code (2 : Nat) (Option.some Jvm.ClassFile.FieldType.int)) ∈ zWs := kw_of 761 (by decide +kernel) rfl
theorem kw_762 : (Jvm.Cond.methodLink "StarLessLaw" (75 : Nat) ({ cls := "StarLessModel", name := "limits", desc := "()I" } : Jvm.MethodName)) ∈ zWs := kw_of 762 (by decide +kernel) rfl
theorem kw_763 : (Jvm.Cond.instanceMethod ({ cls := "StarLessModel", name := "limits", desc := "()I" } : Jvm.MethodName)) ∈ zWs := kw_of 763 (by decide +kernel) rfl
theorem kw_764 : (Jvm.Cond.selects "StarLessModel" ({ cls := "StarLessModel", name := "limits", desc := "()I" } : Jvm.MethodName) ({ cls := "StarLessModel", name := "limits", desc := "()I" } : Jvm.MethodName)) ∈ zWs := kw_of 764 (by decide +kernel) rfl
theorem kw_765 : (Jvm.Cond.code ({ cls := "StarLessModel", name := "limits", desc := "()I" } : Jvm.MethodName) prog_9_method_39_code (4 : Nat) (Option.some Jvm.ClassFile.FieldType.int)) ∈ zWs := kw_of 765 (by decide +kernel) rfl
theorem kw_766 : (Jvm.Cond.methodLink "StarLessModel" (216 : Nat) ({ cls := "StarLessModel", name := "areSo", desc := "()Z" } : Jvm.MethodName)) ∈ zWs := kw_of 766 (by decide +kernel) rfl
theorem kw_768 : (Jvm.Cond.instanceMethod ({ cls := "StarLessModel", name := "areSo", desc := "()Z" } : Jvm.MethodName)) ∈ zWs := kw_of 768 (by decide +kernel) rfl
theorem kw_769 : (Jvm.Cond.code ({ cls := "StarLessModel", name := "areSo", desc := "()Z" } : Jvm.MethodName) prog_9_method_38_code (3 : Nat) (Option.some Jvm.ClassFile.FieldType.boolean)) ∈ zWs := kw_of 769 (by decide +kernel) rfl
theorem kw_770 : (Jvm.Cond.methodLink "StarLessLaw" (79 : Nat) ({ cls := "StarLessModel", name := "kinds", desc := "(I)I" } : Jvm.MethodName)) ∈ zWs := kw_of 770 (by decide +kernel) rfl
theorem kw_771 : (Jvm.Cond.instanceMethod ({ cls := "StarLessModel", name := "kinds", desc := "(I)I" } : Jvm.MethodName)) ∈ zWs := kw_of 771 (by decide +kernel) rfl
theorem kw_772 : (Jvm.Cond.selects "StarLessModel" ({ cls := "StarLessModel", name := "kinds", desc := "(I)I" } : Jvm.MethodName) ({ cls := "StarLessModel", name := "kinds", desc := "(I)I" } : Jvm.MethodName)) ∈ zWs := kw_of 772 (by decide +kernel) rfl
theorem kw_773 : (Jvm.Cond.code ({ cls := "StarLessModel", name := "kinds", desc := "(I)I" } : Jvm.MethodName) prog_9_method_40_code (5 : Nat) (Option.some Jvm.ClassFile.FieldType.int)) ∈ zWs := kw_of 773 (by decide +kernel) rfl
theorem kw_774 : (Jvm.Cond.methodLink "StarLessLaw" (83 : Nat) ({ cls := "StarLessModel", name := "tastes", desc := "(I)I" } : Jvm.MethodName)) ∈ zWs := kw_of 774 (by decide +kernel) rfl
theorem kw_775 : (Jvm.Cond.instanceMethod ({ cls := "StarLessModel", name := "tastes", desc := "(I)I" } : Jvm.MethodName)) ∈ zWs := kw_of 775 (by decide +kernel) rfl
theorem kw_776 : (Jvm.Cond.selects "StarLessModel" ({ cls := "StarLessModel", name := "tastes", desc := "(I)I" } : Jvm.MethodName) ({ cls := "StarLessModel", name := "tastes", desc := "(I)I" } : Jvm.MethodName)) ∈ zWs := kw_of 776 (by decide +kernel) rfl
theorem kw_777 : (Jvm.Cond.code ({ cls := "StarLessModel", name := "tastes", desc := "(I)I" } : Jvm.MethodName) prog_9_method_41_code (5 : Nat) (Option.some Jvm.ClassFile.FieldType.int)) ∈ zWs := kw_of 777 (by decide +kernel) rfl
theorem kw_778 : (Jvm.Cond.methodLink "StarLessLaw" (87 : Nat) ({ cls := "StarLessModel", name := "charms", desc := "(I)I" } : Jvm.MethodName)) ∈ zWs := kw_of 778 (by decide +kernel) rfl
theorem kw_779 : (Jvm.Cond.instanceMethod ({ cls := "StarLessModel", name := "charms", desc := "(I)I" } : Jvm.MethodName)) ∈ zWs := kw_of 779 (by decide +kernel) rfl
theorem kw_780 : (Jvm.Cond.selects "StarLessModel" ({ cls := "StarLessModel", name := "charms", desc := "(I)I" } : Jvm.MethodName) ({ cls := "StarLessModel", name := "charms", desc := "(I)I" } : Jvm.MethodName)) ∈ zWs := kw_of 780 (by decide +kernel) rfl
theorem kw_781 : (Jvm.Cond.code ({ cls := "StarLessModel", name := "charms", desc := "(I)I" } : Jvm.MethodName) prog_9_method_42_code (5 : Nat) (Option.some Jvm.ClassFile.FieldType.int)) ∈ zWs := kw_of 781 (by decide +kernel) rfl
theorem kw_782 : (Jvm.Cond.methodLink "StarLessLaw" (92 : Nat) ({ cls := "StarLessModel", name := "odds", desc := "(IIIIII)J" } : Jvm.MethodName)) ∈ zWs := kw_of 782 (by decide +kernel) rfl
theorem kw_783 : (Jvm.Cond.instanceMethod ({ cls := "StarLessModel", name := "odds", desc := "(IIIIII)J" } : Jvm.MethodName)) ∈ zWs := kw_of 783 (by decide +kernel) rfl
theorem kw_784 : (Jvm.Cond.selects "StarLessModel" ({ cls := "StarLessModel", name := "odds", desc := "(IIIIII)J" } : Jvm.MethodName) ({ cls := "StarLessModel", name := "odds", desc := "(IIIIII)J" } : Jvm.MethodName)) ∈ zWs := kw_of 784 (by decide +kernel) rfl
theorem kw_785 : (Jvm.Cond.code ({ cls := "StarLessModel", name := "odds", desc := "(IIIIII)J" } : Jvm.MethodName) prog_9_method_44_code (12 : Nat) (Option.some Jvm.ClassFile.FieldType.long)) ∈ zWs := kw_of 785 (by decide +kernel) rfl
theorem kw_786 : (Jvm.Cond.methodLink "StarLessModel" (220 : Nat) ({ cls := "StarLessModel", name := "refusedLong", desc := "()J" } : Jvm.MethodName)) ∈ zWs := kw_of 786 (by decide +kernel) rfl
theorem kw_788 : (Jvm.Cond.instanceMethod ({ cls := "StarLessModel", name := "refusedLong", desc := "()J" } : Jvm.MethodName)) ∈ zWs := kw_of 788 (by decide +kernel) rfl
theorem kw_789 : (Jvm.Cond.code ({ cls := "StarLessModel", name := "refusedLong", desc := "()J" } : Jvm.MethodName) prog_9_method_43_code (1 : Nat) (Option.some Jvm.ClassFile.FieldType.long)) ∈ zWs := kw_of 789 (by decide +kernel) rfl
theorem kw_790 : (Jvm.Cond.methodLink "StarLessModel" (71 : Nat) ({ cls := "StarLessModel", name := "lost", desc := "()J" } : Jvm.MethodName)) ∈ zWs := kw_of 790 (by decide +kernel) rfl
theorem kw_791 : (Jvm.Cond.static ({ cls := "StarLessModel", name := "lost", desc := "()J" } : Jvm.MethodName)) ∈ zWs := kw_of 791 (by decide +kernel) rfl
theorem kw_792 : (Jvm.Cond.code ({ cls := "StarLessModel", name := "lost", desc := "()J" } : Jvm.MethodName) prog_9_method_3_code (0 : Nat) (Option.some Jvm.ClassFile.FieldType.long)) ∈ zWs := kw_of 792 (by decide +kernel) rfl
theorem kw_793 : (Jvm.Cond.constantLong "StarLessModel" (65 : Nat) (-9223372036854775808 : Int64)) ∈ zWs := kw_of 793 (by decide +kernel) rfl
theorem kw_794 : (Jvm.Cond.methodLink "StarLessModel" (223 : Nat) ({ cls := "StarLessModel", name := "share", desc := "(JJI)J" } : Jvm.MethodName)) ∈ zWs := kw_of 794 (by decide +kernel) rfl
theorem kw_795 : (Jvm.Cond.static ({ cls := "StarLessModel", name := "share", desc := "(JJI)J" } : Jvm.MethodName)) ∈ zWs := kw_of 795 (by decide +kernel) rfl
theorem kw_796 : (Jvm.Cond.code ({ cls := "StarLessModel", name := "share", desc := "(JJI)J" } : Jvm.MethodName) prog_9_method_5_code (11 : Nat) (Option.some Jvm.ClassFile.FieldType.long)) ∈ zWs := kw_of 796 (by decide +kernel) rfl
theorem kw_797 : (Jvm.Cond.methodLink "StarLessLaw" (97 : Nat) ({ cls := "StarLessModel", name := "sheet", desc := "(III)I" } : Jvm.MethodName)) ∈ zWs := kw_of 797 (by decide +kernel) rfl
theorem kw_798 : (Jvm.Cond.instanceMethod ({ cls := "StarLessModel", name := "sheet", desc := "(III)I" } : Jvm.MethodName)) ∈ zWs := kw_of 798 (by decide +kernel) rfl
theorem kw_799 : (Jvm.Cond.selects "StarLessModel" ({ cls := "StarLessModel", name := "sheet", desc := "(III)I" } : Jvm.MethodName) ({ cls := "StarLessModel", name := "sheet", desc := "(III)I" } : Jvm.MethodName)) ∈ zWs := kw_of 799 (by decide +kernel) rfl
theorem kw_800 : (Jvm.Cond.code ({ cls := "StarLessModel", name := "sheet", desc := "(III)I" } : Jvm.MethodName) prog_9_method_46_code (5 : Nat) (Option.some Jvm.ClassFile.FieldType.int)) ∈ zWs := kw_of 800 (by decide +kernel) rfl
theorem kw_801 : (Jvm.Cond.methodLink "StarLessLaw" (101 : Nat) ({ cls := "StarLessModel", name := "lose", desc := "(I)I" } : Jvm.MethodName)) ∈ zWs := kw_of 801 (by decide +kernel) rfl
theorem kw_802 : (Jvm.Cond.instanceMethod ({ cls := "StarLessModel", name := "lose", desc := "(I)I" } : Jvm.MethodName)) ∈ zWs := kw_of 802 (by decide +kernel) rfl
theorem kw_803 : (Jvm.Cond.selects "StarLessModel" ({ cls := "StarLessModel", name := "lose", desc := "(I)I" } : Jvm.MethodName) ({ cls := "StarLessModel", name := "lose", desc := "(I)I" } : Jvm.MethodName)) ∈ zWs := kw_of 803 (by decide +kernel) rfl
theorem kw_804 : (Jvm.Cond.code ({ cls := "StarLessModel", name := "lose", desc := "(I)I" } : Jvm.MethodName) prog_9_method_47_code (3 : Nat) (Option.some Jvm.ClassFile.FieldType.int)) ∈ zWs := kw_of 804 (by decide +kernel) rfl
theorem kw_805 : (Jvm.Cond.methodLink "StarLessLaw" (105 : Nat) ({ cls := "StarLessModel", name := "put", desc := "(III)I" } : Jvm.MethodName)) ∈ zWs := kw_of 805 (by decide +kernel) rfl
theorem kw_806 : (Jvm.Cond.instanceMethod ({ cls := "StarLessModel", name := "put", desc := "(III)I" } : Jvm.MethodName)) ∈ zWs := kw_of 806 (by decide +kernel) rfl
theorem kw_807 : (Jvm.Cond.selects "StarLessModel" ({ cls := "StarLessModel", name := "put", desc := "(III)I" } : Jvm.MethodName) ({ cls := "StarLessModel", name := "put", desc := "(III)I" } : Jvm.MethodName)) ∈ zWs := kw_of 807 (by decide +kernel) rfl
theorem kw_808 : (Jvm.Cond.code ({ cls := "StarLessModel", name := "put", desc := "(III)I" } : Jvm.MethodName) prog_9_method_49_code (4 : Nat) (Option.some Jvm.ClassFile.FieldType.int)) ∈ zWs := kw_of 808 (by decide +kernel) rfl
theorem kw_809 : (Jvm.Cond.methodLink "StarLessModel" (229 : Nat) ({ cls := "StarLessModel", name := "noCell", desc := "(II)I" } : Jvm.MethodName)) ∈ zWs := kw_of 809 (by decide +kernel) rfl
theorem kw_811 : (Jvm.Cond.instanceMethod ({ cls := "StarLessModel", name := "noCell", desc := "(II)I" } : Jvm.MethodName)) ∈ zWs := kw_of 811 (by decide +kernel) rfl
theorem kw_812 : (Jvm.Cond.code ({ cls := "StarLessModel", name := "noCell", desc := "(II)I" } : Jvm.MethodName) prog_9_method_48_code (3 : Nat) (Option.some Jvm.ClassFile.FieldType.int)) ∈ zWs := kw_of 812 (by decide +kernel) rfl
theorem kw_813 : (Jvm.Cond.methodLink "StarLessLaw" (110 : Nat) ({ cls := "StarLessModel", name := "cell", desc := "(III)J" } : Jvm.MethodName)) ∈ zWs := kw_of 813 (by decide +kernel) rfl
theorem kw_814 : (Jvm.Cond.instanceMethod ({ cls := "StarLessModel", name := "cell", desc := "(III)J" } : Jvm.MethodName)) ∈ zWs := kw_of 814 (by decide +kernel) rfl
theorem kw_815 : (Jvm.Cond.selects "StarLessModel" ({ cls := "StarLessModel", name := "cell", desc := "(III)J" } : Jvm.MethodName) ({ cls := "StarLessModel", name := "cell", desc := "(III)J" } : Jvm.MethodName)) ∈ zWs := kw_of 815 (by decide +kernel) rfl
theorem kw_816 : (Jvm.Cond.code ({ cls := "StarLessModel", name := "cell", desc := "(III)J" } : Jvm.MethodName) prog_9_method_50_code (4 : Nat) (Option.some Jvm.ClassFile.FieldType.long)) ∈ zWs := kw_of 816 (by decide +kernel) rfl
theorem kw_817 : (Jvm.Cond.methodLink "StarLessModel" (232 : Nat) ({ cls := "StarLessModel", name := "failedLong", desc := "(I)J" } : Jvm.MethodName)) ∈ zWs := kw_of 817 (by decide +kernel) rfl
theorem kw_819 : (Jvm.Cond.instanceMethod ({ cls := "StarLessModel", name := "failedLong", desc := "(I)J" } : Jvm.MethodName)) ∈ zWs := kw_of 819 (by decide +kernel) rfl
theorem kw_820 : (Jvm.Cond.code ({ cls := "StarLessModel", name := "failedLong", desc := "(I)J" } : Jvm.MethodName) prog_9_method_8_code (2 : Nat) (Option.some Jvm.ClassFile.FieldType.long)) ∈ zWs := kw_of 820 (by decide +kernel) rfl
theorem kw_821 : (Jvm.Cond.methodLink "StarLessLaw" (114 : Nat) ({ cls := "StarLessModel", name := "copy", desc := "(IIIII)I" } : Jvm.MethodName)) ∈ zWs := kw_of 821 (by decide +kernel) rfl
theorem kw_822 : (Jvm.Cond.instanceMethod ({ cls := "StarLessModel", name := "copy", desc := "(IIIII)I" } : Jvm.MethodName)) ∈ zWs := kw_of 822 (by decide +kernel) rfl
theorem kw_823 : (Jvm.Cond.selects "StarLessModel" ({ cls := "StarLessModel", name := "copy", desc := "(IIIII)I" } : Jvm.MethodName) ({ cls := "StarLessModel", name := "copy", desc := "(IIIII)I" } : Jvm.MethodName)) ∈ zWs := kw_of 823 (by decide +kernel) rfl
theorem kw_824 : (Jvm.Cond.code ({ cls := "StarLessModel", name := "copy", desc := "(IIIII)I" } : Jvm.MethodName) prog_9_method_52_code (7 : Nat) (Option.some Jvm.ClassFile.FieldType.int)) ∈ zWs := kw_of 824 (by decide +kernel) rfl
theorem kw_825 : (Jvm.Cond.methodLink "StarLessLaw" (118 : Nat) ({ cls := "StarLessModel", name := "tell", desc := "(I)I" } : Jvm.MethodName)) ∈ zWs := kw_of 825 (by decide +kernel) rfl
theorem kw_826 : (Jvm.Cond.instanceMethod ({ cls := "StarLessModel", name := "tell", desc := "(I)I" } : Jvm.MethodName)) ∈ zWs := kw_of 826 (by decide +kernel) rfl
theorem kw_827 : (Jvm.Cond.selects "StarLessModel" ({ cls := "StarLessModel", name := "tell", desc := "(I)I" } : Jvm.MethodName) ({ cls := "StarLessModel", name := "tell", desc := "(I)I" } : Jvm.MethodName)) ∈ zWs := kw_of 827 (by decide +kernel) rfl
theorem kw_828 : (Jvm.Cond.code ({ cls := "StarLessModel", name := "tell", desc := "(I)I" } : Jvm.MethodName) prog_9_method_54_code (4 : Nat) (Option.some Jvm.ClassFile.FieldType.int)) ∈ zWs := kw_of 828 (by decide +kernel) rfl
theorem kw_829 : (Jvm.Cond.methodLink "StarLessModel" (239 : Nat) ({ cls := "StarLessModel", name := "traced", desc := "(I)V" } : Jvm.MethodName)) ∈ zWs := kw_of 829 (by decide +kernel) rfl
theorem kw_831 : (Jvm.Cond.instanceMethod ({ cls := "StarLessModel", name := "traced", desc := "(I)V" } : Jvm.MethodName)) ∈ zWs := kw_of 831 (by decide +kernel) rfl
theorem kw_832 : (Jvm.Cond.code ({ cls := "StarLessModel", name := "traced", desc := "(I)V" } : Jvm.MethodName) prog_9_method_53_code (2 : Nat) (Option.none : Option Jvm.ClassFile.FieldType)) ∈ zWs := kw_of 832 (by decide +kernel) rfl
theorem kw_833 : (Jvm.Cond.methodLink "StarLessLaw" (122 : Nat) ({ cls := "StarLessModel", name := "greet", desc := "(I)I" } : Jvm.MethodName)) ∈ zWs := kw_of 833 (by decide +kernel) rfl
theorem kw_834 : (Jvm.Cond.instanceMethod ({ cls := "StarLessModel", name := "greet", desc := "(I)I" } : Jvm.MethodName)) ∈ zWs := kw_of 834 (by decide +kernel) rfl
theorem kw_835 : (Jvm.Cond.selects "StarLessModel" ({ cls := "StarLessModel", name := "greet", desc := "(I)I" } : Jvm.MethodName) ({ cls := "StarLessModel", name := "greet", desc := "(I)I" } : Jvm.MethodName)) ∈ zWs := kw_of 835 (by decide +kernel) rfl
theorem kw_836 : (Jvm.Cond.code ({ cls := "StarLessModel", name := "greet", desc := "(I)I" } : Jvm.MethodName) prog_9_method_55_code (2 : Nat) (Option.some Jvm.ClassFile.FieldType.int)) ∈ zWs := kw_of 836 (by decide +kernel) rfl
theorem kw_837 : (Jvm.Cond.methodLink "StarLessLaw" (126 : Nat) ({ cls := "StarLessModel", name := "as", desc := "(II)I" } : Jvm.MethodName)) ∈ zWs := kw_of 837 (by decide +kernel) rfl
theorem kw_838 : (Jvm.Cond.instanceMethod ({ cls := "StarLessModel", name := "as", desc := "(II)I" } : Jvm.MethodName)) ∈ zWs := kw_of 838 (by decide +kernel) rfl
theorem kw_839 : (Jvm.Cond.selects "StarLessModel" ({ cls := "StarLessModel", name := "as", desc := "(II)I" } : Jvm.MethodName) ({ cls := "StarLessModel", name := "as", desc := "(II)I" } : Jvm.MethodName)) ∈ zWs := kw_of 839 (by decide +kernel) rfl
theorem kw_840 : (Jvm.Cond.code ({ cls := "StarLessModel", name := "as", desc := "(II)I" } : Jvm.MethodName) prog_9_method_56_code (3 : Nat) (Option.some Jvm.ClassFile.FieldType.int)) ∈ zWs := kw_of 840 (by decide +kernel) rfl
theorem kw_841 : (Jvm.Cond.methodLink "StarLessLaw" (130 : Nat) ({ cls := "StarLessModel", name := "trace", desc := "()I" } : Jvm.MethodName)) ∈ zWs := kw_of 841 (by decide +kernel) rfl
theorem kw_842 : (Jvm.Cond.instanceMethod ({ cls := "StarLessModel", name := "trace", desc := "()I" } : Jvm.MethodName)) ∈ zWs := kw_of 842 (by decide +kernel) rfl
theorem kw_843 : (Jvm.Cond.selects "StarLessModel" ({ cls := "StarLessModel", name := "trace", desc := "()I" } : Jvm.MethodName) ({ cls := "StarLessModel", name := "trace", desc := "()I" } : Jvm.MethodName)) ∈ zWs := kw_of 843 (by decide +kernel) rfl
theorem kw_844 : (Jvm.Cond.code ({ cls := "StarLessModel", name := "trace", desc := "()I" } : Jvm.MethodName) prog_9_method_57_code (1 : Nat) (Option.some Jvm.ClassFile.FieldType.int)) ∈ zWs := kw_of 844 (by decide +kernel) rfl
theorem kw_845 : (Jvm.Cond.methodLink "StarLessLaw" (134 : Nat) ({ cls := "StarLessModel", name := "fault", desc := "()I" } : Jvm.MethodName)) ∈ zWs := kw_of 845 (by decide +kernel) rfl
theorem kw_846 : (Jvm.Cond.instanceMethod ({ cls := "StarLessModel", name := "fault", desc := "()I" } : Jvm.MethodName)) ∈ zWs := kw_of 846 (by decide +kernel) rfl
theorem kw_847 : (Jvm.Cond.selects "StarLessModel" ({ cls := "StarLessModel", name := "fault", desc := "()I" } : Jvm.MethodName) ({ cls := "StarLessModel", name := "fault", desc := "()I" } : Jvm.MethodName)) ∈ zWs := kw_of 847 (by decide +kernel) rfl
theorem kw_848 : (Jvm.Cond.code ({ cls := "StarLessModel", name := "fault", desc := "()I" } : Jvm.MethodName) prog_9_method_58_code (1 : Nat) (Option.some Jvm.ClassFile.FieldType.int)) ∈ zWs := kw_of 848 (by decide +kernel) rfl
theorem kw_849 : (Jvm.Cond.methodLink "StarLessLaw" (138 : Nat) ({ cls := "StarLessModel", name := "many", desc := "(I)I" } : Jvm.MethodName)) ∈ zWs := kw_of 849 (by decide +kernel) rfl
theorem kw_850 : (Jvm.Cond.instanceMethod ({ cls := "StarLessModel", name := "many", desc := "(I)I" } : Jvm.MethodName)) ∈ zWs := kw_of 850 (by decide +kernel) rfl
theorem kw_851 : (Jvm.Cond.selects "StarLessModel" ({ cls := "StarLessModel", name := "many", desc := "(I)I" } : Jvm.MethodName) ({ cls := "StarLessModel", name := "many", desc := "(I)I" } : Jvm.MethodName)) ∈ zWs := kw_of 851 (by decide +kernel) rfl
theorem kw_852 : (Jvm.Cond.code ({ cls := "StarLessModel", name := "many", desc := "(I)I" } : Jvm.MethodName) prog_9_method_59_code (2 : Nat) (Option.some Jvm.ClassFile.FieldType.int)) ∈ zWs := kw_of 852 (by decide +kernel) rfl
theorem ks_0 : Cond.selects "StarLess$Sheets" ⟨"StarLess$Sheets", "isSheet", "(I)Z"⟩ ⟨"StarLess$Sheets", "isSheet", "(I)Z"⟩ ∈ zWs := ks_of (q := (⟨"StarLess$Sheets", "isSheet", "(I)Z"⟩, 4)) 0 (by decide +kernel) rfl
theorem ks_1 : Cond.selects "StarLess$Sheets" ⟨"StarLess$Sheets", "faultAsRow", "(II)I"⟩ ⟨"StarLess$Sheets", "faultAsRow", "(II)I"⟩ ∈ zWs := ks_of (q := (⟨"StarLess$Sheets", "faultAsRow", "(II)I"⟩, 4)) 1 (by decide +kernel) rfl
theorem ks_2 : Cond.selects "StarLess" ⟨"StarLess", "faulty", "(I)I"⟩ ⟨"StarLess", "faulty", "(I)I"⟩ ∈ zWs := ks_of (q := (⟨"StarLess", "faulty", "(I)I"⟩, 8)) 2 (by decide +kernel) rfl
theorem ks_3 : Cond.selects "StarLess$Sheets" ⟨"StarLess$Sheets", "spans", "(III)Z"⟩ ⟨"StarLess$Sheets", "spans", "(III)Z"⟩ ∈ zWs := ks_of (q := (⟨"StarLess$Sheets", "spans", "(III)Z"⟩, 4)) 3 (by decide +kernel) rfl
theorem ks_4 : Cond.selects "StarLess$Text" ⟨"StarLess$Text", "isOne", "([III)Z"⟩ ⟨"StarLess$Text", "isOne", "([III)Z"⟩ ∈ zWs := ks_of (q := (⟨"StarLess$Text", "isOne", "([III)Z"⟩, 6)) 4 (by decide +kernel) rfl
theorem ks_5 : Cond.selects "StarLess$Text" ⟨"StarLess$Text", "next", "(II)Z"⟩ ⟨"StarLess$Text", "next", "(II)Z"⟩ ∈ zWs := ks_of (q := (⟨"StarLess$Text", "next", "(II)Z"⟩, 6)) 5 (by decide +kernel) rfl
theorem ks_6 : Cond.selects "StarLess$Text" ⟨"StarLess$Text", "areDoings", "()Z"⟩ ⟨"StarLess$Text", "areDoings", "()Z"⟩ ∈ zWs := ks_of (q := (⟨"StarLess$Text", "areDoings", "()Z"⟩, 6)) 6 (by decide +kernel) rfl
theorem ks_7 : Cond.selects "StarLess$Text" ⟨"StarLess$Text", "areGuests", "()Z"⟩ ⟨"StarLess$Text", "areGuests", "()Z"⟩ ∈ zWs := ks_of (q := (⟨"StarLess$Text", "areGuests", "()Z"⟩, 6)) 7 (by decide +kernel) rfl
theorem ks_8 : Cond.selects "StarLess$Text" ⟨"StarLess$Text", "isLetter", "()Z"⟩ ⟨"StarLess$Text", "isLetter", "()Z"⟩ ∈ zWs := ks_of (q := (⟨"StarLess$Text", "isLetter", "()Z"⟩, 6)) 8 (by decide +kernel) rfl
theorem ks_9 : Cond.selects "StarLess$House" ⟨"StarLess$House", "open", "([IIII)V"⟩ ⟨"StarLess$House", "open", "([IIII)V"⟩ ∈ zWs := ks_of (q := (⟨"StarLess$House", "open", "([IIII)V"⟩, 9)) 9 (by decide +kernel) rfl
theorem ks_10 : Cond.selects "StarLess$House" ⟨"StarLess$House", "isGuest", "(I)Z"⟩ ⟨"StarLess$House", "isGuest", "(I)Z"⟩ ∈ zWs := ks_of (q := (⟨"StarLess$House", "isGuest", "(I)Z"⟩, 9)) 10 (by decide +kernel) rfl
theorem ks_11 : Cond.selects "StarLess$House" ⟨"StarLess$House", "isDoing", "(I)Z"⟩ ⟨"StarLess$House", "isDoing", "(I)Z"⟩ ∈ zWs := ks_of (q := (⟨"StarLess$House", "isDoing", "(I)Z"⟩, 9)) 11 (by decide +kernel) rfl
theorem ks_12 : Cond.selects "StarLess$House" ⟨"StarLess$House", "wonBy", "(I)I"⟩ ⟨"StarLess$House", "wonBy", "(I)I"⟩ ∈ zWs := ks_of (q := (⟨"StarLess$House", "wonBy", "(I)I"⟩, 9)) 12 (by decide +kernel) rfl
theorem ks_13 : Cond.selects "StarLess$House" ⟨"StarLess$House", "isWon", "(II)Z"⟩ ⟨"StarLess$House", "isWon", "(II)Z"⟩ ∈ zWs := ks_of (q := (⟨"StarLess$House", "isWon", "(II)Z"⟩, 9)) 13 (by decide +kernel) rfl
theorem ks_14 : Cond.selects "StarLess$House" ⟨"StarLess$House", "pleasure", "(II)I"⟩ ⟨"StarLess$House", "pleasure", "(II)I"⟩ ∈ zWs := ks_of (q := (⟨"StarLess$House", "pleasure", "(II)I"⟩, 9)) 14 (by decide +kernel) rfl
theorem ks_15 : Cond.selects "StarLess$House" ⟨"StarLess$House", "isOpen", "()Z"⟩ ⟨"StarLess$House", "isOpen", "()Z"⟩ ∈ zWs := ks_of (q := (⟨"StarLess$House", "isOpen", "()Z"⟩, 9)) 15 (by decide +kernel) rfl
theorem ks_16 : Cond.selects "StarLess" ⟨"StarLess", "refusedPairs", "(IIII)I"⟩ ⟨"StarLess", "refusedPairs", "(IIII)I"⟩ ∈ zWs := ks_of (q := (⟨"StarLess", "refusedPairs", "(IIII)I"⟩, 8)) 16 (by decide +kernel) rfl
theorem ks_17 : Cond.selects "StarLess$Outcome" ⟨"StarLess$Outcome", "live", "(LStarLess$House;[IIII)V"⟩ ⟨"StarLess$Outcome", "live", "(LStarLess$House;[IIII)V"⟩ ∈ zWs := ks_of (q := (⟨"StarLess$Outcome", "live", "(LStarLess$House;[IIII)V"⟩, 5)) 17 (by decide +kernel) rfl
theorem ks_18 : Cond.selects "StarLess$Outcome" ⟨"StarLess$Outcome", "pay", "(LStarLess$House;IIIZ)V"⟩ ⟨"StarLess$Outcome", "pay", "(LStarLess$House;IIIZ)V"⟩ ∈ zWs := ks_of (q := (⟨"StarLess$Outcome", "pay", "(LStarLess$House;IIIZ)V"⟩, 5)) 18 (by decide +kernel) rfl
theorem ks_19 : Cond.selects "StarLess" ⟨"StarLess", "refusedSeason", "(IIIII)I"⟩ ⟨"StarLess", "refusedSeason", "(IIIII)I"⟩ ∈ zWs := ks_of (q := (⟨"StarLess", "refusedSeason", "(IIIII)I"⟩, 8)) 19 (by decide +kernel) rfl
theorem ks_20 : Cond.selects "StarLess$Plan" ⟨"StarLess$Plan", "isMade", "(LStarLess$House;)Z"⟩ ⟨"StarLess$Plan", "isMade", "(LStarLess$House;)Z"⟩ ∈ zWs := ks_of (q := (⟨"StarLess$Plan", "isMade", "(LStarLess$House;)Z"⟩, 3)) 20 (by decide +kernel) rfl
theorem ks_21 : Cond.selects "StarLess$Plan" ⟨"StarLess$Plan", "leastOf", "(LStarLess$House;II)I"⟩ ⟨"StarLess$Plan", "leastOf", "(LStarLess$House;II)I"⟩ ∈ zWs := ks_of (q := (⟨"StarLess$Plan", "leastOf", "(LStarLess$House;II)I"⟩, 3)) 21 (by decide +kernel) rfl
theorem ks_22 : Cond.selects "StarLess$Plan" ⟨"StarLess$Plan", "weight", "(LStarLess$House;III)I"⟩ ⟨"StarLess$Plan", "weight", "(LStarLess$House;III)I"⟩ ∈ zWs := ks_of (q := (⟨"StarLess$Plan", "weight", "(LStarLess$House;III)I"⟩, 3)) 22 (by decide +kernel) rfl
theorem ks_23 : Cond.selects "StarLess$Plan" ⟨"StarLess$Plan", "choose", "(LStarLess$House;)V"⟩ ⟨"StarLess$Plan", "choose", "(LStarLess$House;)V"⟩ ∈ zWs := ks_of (q := (⟨"StarLess$Plan", "choose", "(LStarLess$House;)V"⟩, 3)) 23 (by decide +kernel) rfl
theorem ks_24 : Cond.selects "StarLess$Plan" ⟨"StarLess$Plan", "firstBest", "(LStarLess$House;II)I"⟩ ⟨"StarLess$Plan", "firstBest", "(LStarLess$House;II)I"⟩ ∈ zWs := ks_of (q := (⟨"StarLess$Plan", "firstBest", "(LStarLess$House;II)I"⟩, 3)) 24 (by decide +kernel) rfl
theorem ks_25 : Cond.selects "StarLess$Log" ⟨"StarLess$Log", "add", "(IIZ)I"⟩ ⟨"StarLess$Log", "add", "(IIZ)I"⟩ ∈ zWs := ks_of (q := (⟨"StarLess$Log", "add", "(IIZ)I"⟩, 4)) 25 (by decide +kernel) rfl
theorem ks_26 : Cond.selects "StarLess$Log" ⟨"StarLess$Log", "isSo", "(LStarLess$House;)Z"⟩ ⟨"StarLess$Log", "isSo", "(LStarLess$House;)Z"⟩ ∈ zWs := ks_of (q := (⟨"StarLess$Log", "isSo", "(LStarLess$House;)Z"⟩, 4)) 26 (by decide +kernel) rfl
theorem ks_27 : Cond.selects "StarLess" ⟨"StarLess", "fitting", "([III)I"⟩ ⟨"StarLess", "fitting", "([III)I"⟩ ∈ zWs := ks_of (q := (⟨"StarLess", "fitting", "([III)I"⟩, 8)) 27 (by decide +kernel) rfl
theorem ks_28 : Cond.selects "StarLess$Sheets" ⟨"StarLess$Sheets", "renew", "(III)V"⟩ ⟨"StarLess$Sheets", "renew", "(III)V"⟩ ∈ zWs := ks_of (q := (⟨"StarLess$Sheets", "renew", "(III)V"⟩, 4)) 28 (by decide +kernel) rfl
theorem ks_29 : Cond.selects "StarLess$Sheets" ⟨"StarLess$Sheets", "isCell", "(II)Z"⟩ ⟨"StarLess$Sheets", "isCell", "(II)Z"⟩ ∈ zWs := ks_of (q := (⟨"StarLess$Sheets", "isCell", "(II)Z"⟩, 4)) 29 (by decide +kernel) rfl
theorem ks_30 : Cond.selects "StarLess" ⟨"StarLess", "tellAsPoet", "(I)I"⟩ ⟨"StarLess", "tellAsPoet", "(I)I"⟩ ∈ zWs := ks_of (q := (⟨"StarLess", "tellAsPoet", "(I)I"⟩, 8)) 30 (by decide +kernel) rfl
theorem ks_31 : Cond.selects "StarLess" ⟨"StarLess", "leave", "(I)V"⟩ ⟨"StarLess", "leave", "(I)V"⟩ ∈ zWs := ks_of (q := (⟨"StarLess", "leave", "(I)V"⟩, 8)) 31 (by decide +kernel) rfl
theorem ks_32 : Cond.selects "StarLess" ⟨"StarLess", "tellAsCritic", "(I)I"⟩ ⟨"StarLess", "tellAsCritic", "(I)I"⟩ ∈ zWs := ks_of (q := (⟨"StarLess", "tellAsCritic", "(I)I"⟩, 8)) 32 (by decide +kernel) rfl
theorem ks_33 : Cond.selects "StarLess" ⟨"StarLess", "tellAsGuest", "(I)I"⟩ ⟨"StarLess", "tellAsGuest", "(I)I"⟩ ∈ zWs := ks_of (q := (⟨"StarLess", "tellAsGuest", "(I)I"⟩, 8)) 33 (by decide +kernel) rfl
theorem ks_34 : Cond.selects "StarLessModel" ⟨"StarLessModel", "refused", "(I)I"⟩ ⟨"StarLessModel", "refused", "(I)I"⟩ ∈ zWs := ks_of (q := (⟨"StarLessModel", "refused", "(I)I"⟩, 38)) 34 (by decide +kernel) rfl
theorem ks_35 : Cond.selects "StarLessModel" ⟨"StarLessModel", "cellsBarred", "(IIIJ)I"⟩ ⟨"StarLessModel", "cellsBarred", "(IIIJ)I"⟩ ∈ zWs := ks_of (q := (⟨"StarLessModel", "cellsBarred", "(IIIJ)I"⟩, 38)) 35 (by decide +kernel) rfl
theorem ks_36 : Cond.selects "StarLessModel" ⟨"StarLessModel", "failed", "(I)I"⟩ ⟨"StarLessModel", "failed", "(I)I"⟩ ∈ zWs := ks_of (q := (⟨"StarLessModel", "failed", "(I)I"⟩, 38)) 36 (by decide +kernel) rfl
theorem ks_37 : Cond.selects "StarLessModel" ⟨"StarLessModel", "readsHotel", "(II)Z"⟩ ⟨"StarLessModel", "readsHotel", "(II)Z"⟩ ∈ zWs := ks_of (q := (⟨"StarLessModel", "readsHotel", "(II)Z"⟩, 38)) 37 (by decide +kernel) rfl
theorem ks_38 : Cond.selects "StarLessModel" ⟨"StarLessModel", "codeAt", "(II)I"⟩ ⟨"StarLessModel", "codeAt", "(II)I"⟩ ∈ zWs := ks_of (q := (⟨"StarLessModel", "codeAt", "(II)I"⟩, 38)) 38 (by decide +kernel) rfl
theorem ks_39 : Cond.selects "StarLessModel" ⟨"StarLessModel", "figure", "(IIII)I"⟩ ⟨"StarLessModel", "figure", "(IIII)I"⟩ ∈ zWs := ks_of (q := (⟨"StarLessModel", "figure", "(IIII)I"⟩, 38)) 39 (by decide +kernel) rfl
theorem ks_40 : Cond.selects "StarLessModel" ⟨"StarLessModel", "readsDoing", "(II)Z"⟩ ⟨"StarLessModel", "readsDoing", "(II)Z"⟩ ∈ zWs := ks_of (q := (⟨"StarLessModel", "readsDoing", "(II)Z"⟩, 38)) 40 (by decide +kernel) rfl
theorem ks_41 : Cond.selects "StarLessModel" ⟨"StarLessModel", "readsGuest", "(II)Z"⟩ ⟨"StarLessModel", "readsGuest", "(II)Z"⟩ ∈ zWs := ks_of (q := (⟨"StarLessModel", "readsGuest", "(II)Z"⟩, 38)) 41 (by decide +kernel) rfl
theorem ks_42 : Cond.selects "StarLessModel" ⟨"StarLessModel", "noGuest", "(I)Z"⟩ ⟨"StarLessModel", "noGuest", "(I)Z"⟩ ∈ zWs := ks_of (q := (⟨"StarLessModel", "noGuest", "(I)Z"⟩, 38)) 42 (by decide +kernel) rfl
theorem ks_43 : Cond.selects "StarLessModel" ⟨"StarLessModel", "noDoing", "(I)Z"⟩ ⟨"StarLessModel", "noDoing", "(I)Z"⟩ ∈ zWs := ks_of (q := (⟨"StarLessModel", "noDoing", "(I)Z"⟩, 38)) 43 (by decide +kernel) rfl
theorem ks_44 : Cond.selects "StarLessModel" ⟨"StarLessModel", "losersOf", "(I)I"⟩ ⟨"StarLessModel", "losersOf", "(I)I"⟩ ∈ zWs := ks_of (q := (⟨"StarLessModel", "losersOf", "(I)I"⟩, 38)) 44 (by decide +kernel) rfl
theorem ks_45 : Cond.selects "StarLessModel" ⟨"StarLessModel", "doesLose", "(II)Z"⟩ ⟨"StarLessModel", "doesLose", "(II)Z"⟩ ∈ zWs := ks_of (q := (⟨"StarLessModel", "doesLose", "(II)Z"⟩, 38)) 45 (by decide +kernel) rfl
theorem ks_46 : Cond.selects "StarLessModel" ⟨"StarLessModel", "pleasedBy", "(II)I"⟩ ⟨"StarLessModel", "pleasedBy", "(II)I"⟩ ∈ zWs := ks_of (q := (⟨"StarLessModel", "pleasedBy", "(II)I"⟩, 38)) 46 (by decide +kernel) rfl
theorem ks_47 : Cond.selects "StarLessModel" ⟨"StarLessModel", "pairsBarred", "(IIII)I"⟩ ⟨"StarLessModel", "pairsBarred", "(IIII)I"⟩ ∈ zWs := ks_of (q := (⟨"StarLessModel", "pairsBarred", "(IIII)I"⟩, 38)) 47 (by decide +kernel) rfl
theorem ks_48 : Cond.selects "StarLessModel" ⟨"StarLessModel", "goSeason", "(III)V"⟩ ⟨"StarLessModel", "goSeason", "(III)V"⟩ ∈ zWs := ks_of (q := (⟨"StarLessModel", "goSeason", "(III)V"⟩, 38)) 48 (by decide +kernel) rfl
theorem ks_49 : Cond.selects "StarLessModel" ⟨"StarLessModel", "endingWith", "(IIII)I"⟩ ⟨"StarLessModel", "endingWith", "(IIII)I"⟩ ∈ zWs := ks_of (q := (⟨"StarLessModel", "endingWith", "(IIII)I"⟩, 38)) 49 (by decide +kernel) rfl
theorem ks_50 : Cond.selects "StarLessModel" ⟨"StarLessModel", "everybody", "()I"⟩ ⟨"StarLessModel", "everybody", "()I"⟩ ∈ zWs := ks_of (q := (⟨"StarLessModel", "everybody", "()I"⟩, 38)) 50 (by decide +kernel) rfl
theorem ks_51 : Cond.selects "StarLessModel" ⟨"StarLessModel", "layRow", "(I)V"⟩ ⟨"StarLessModel", "layRow", "(I)V"⟩ ∈ zWs := ks_of (q := (⟨"StarLessModel", "layRow", "(I)V"⟩, 38)) 51 (by decide +kernel) rfl
theorem ks_52 : Cond.selects "StarLessModel" ⟨"StarLessModel", "areSo", "()Z"⟩ ⟨"StarLessModel", "areSo", "()Z"⟩ ∈ zWs := ks_of (q := (⟨"StarLessModel", "areSo", "()Z"⟩, 38)) 52 (by decide +kernel) rfl
theorem ks_53 : Cond.selects "StarLessModel" ⟨"StarLessModel", "refusedLong", "()J"⟩ ⟨"StarLessModel", "refusedLong", "()J"⟩ ∈ zWs := ks_of (q := (⟨"StarLessModel", "refusedLong", "()J"⟩, 38)) 53 (by decide +kernel) rfl
theorem ks_54 : Cond.selects "StarLessModel" ⟨"StarLessModel", "noCell", "(II)I"⟩ ⟨"StarLessModel", "noCell", "(II)I"⟩ ∈ zWs := ks_of (q := (⟨"StarLessModel", "noCell", "(II)I"⟩, 38)) 54 (by decide +kernel) rfl
theorem ks_55 : Cond.selects "StarLessModel" ⟨"StarLessModel", "failedLong", "(I)J"⟩ ⟨"StarLessModel", "failedLong", "(I)J"⟩ ∈ zWs := ks_of (q := (⟨"StarLessModel", "failedLong", "(I)J"⟩, 38)) 55 (by decide +kernel) rfl
theorem ks_56 : Cond.selects "StarLessModel" ⟨"StarLessModel", "traced", "(I)V"⟩ ⟨"StarLessModel", "traced", "(I)V"⟩ ∈ zWs := ks_of (q := (⟨"StarLessModel", "traced", "(I)V"⟩, 38)) 56 (by decide +kernel) rfl
