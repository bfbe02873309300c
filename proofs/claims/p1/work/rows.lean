section
-- ===== PART A: goes FIRST, ahead of the names: the tables' words, and 'selects' of the private methods out of them =====
/-- a private method of a class that the tables say can be made, by its rows of tables_1 -/
def lw_okq (q : MethodName × Nat) : Prop := (q.1.cls ≠ "java/lang/invoke/MethodHandle" ∧ q.1.cls ≠ "java/lang/invoke/VarHandle") ∧ Cond.instantiable q.1.cls q.2 ∈ tables_1 ∧ Cond.privateMethod q.1 ∈ tables_1 ∧ Cond.instanceMethod q.1 ∈ tables_1
theorem lw_p0 : lw_okq (⟨"StarLess$Sheets", "isSheet", "(I)Z"⟩, 4) := ⟨⟨by decide +kernel, by decide +kernel⟩, List.mem_of_getElem? (i := 69) (by decide +kernel), List.mem_of_getElem? (i := 217) (by decide +kernel), List.mem_of_getElem? (i := 218) (by decide +kernel)⟩
theorem lw_p1 : lw_okq (⟨"StarLess$Sheets", "faultAsRow", "(II)I"⟩, 4) := ⟨⟨by decide +kernel, by decide +kernel⟩, List.mem_of_getElem? (i := 69) (by decide +kernel), List.mem_of_getElem? (i := 224) (by decide +kernel), List.mem_of_getElem? (i := 225) (by decide +kernel)⟩
theorem lw_p2 : lw_okq (⟨"StarLess", "faulty", "(I)I"⟩, 8) := ⟨⟨by decide +kernel, by decide +kernel⟩, List.mem_of_getElem? (i := 12) (by decide +kernel), List.mem_of_getElem? (i := 228) (by decide +kernel), List.mem_of_getElem? (i := 229) (by decide +kernel)⟩
theorem lw_p3 : lw_okq (⟨"StarLess$Sheets", "spans", "(III)Z"⟩, 4) := ⟨⟨by decide +kernel, by decide +kernel⟩, List.mem_of_getElem? (i := 69) (by decide +kernel), List.mem_of_getElem? (i := 232) (by decide +kernel), List.mem_of_getElem? (i := 233) (by decide +kernel)⟩
theorem lw_p4 : lw_okq (⟨"StarLess$Text", "isOne", "([III)Z"⟩, 6) := ⟨⟨by decide +kernel, by decide +kernel⟩, List.mem_of_getElem? (i := 94) (by decide +kernel), List.mem_of_getElem? (i := 236) (by decide +kernel), List.mem_of_getElem? (i := 237) (by decide +kernel)⟩
theorem lw_p5 : lw_okq (⟨"StarLess$Text", "next", "(II)Z"⟩, 6) := ⟨⟨by decide +kernel, by decide +kernel⟩, List.mem_of_getElem? (i := 94) (by decide +kernel), List.mem_of_getElem? (i := 240) (by decide +kernel), List.mem_of_getElem? (i := 241) (by decide +kernel)⟩
theorem lw_p6 : lw_okq (⟨"StarLess$Text", "areDoings", "()Z"⟩, 6) := ⟨⟨by decide +kernel, by decide +kernel⟩, List.mem_of_getElem? (i := 94) (by decide +kernel), List.mem_of_getElem? (i := 244) (by decide +kernel), List.mem_of_getElem? (i := 245) (by decide +kernel)⟩
theorem lw_p7 : lw_okq (⟨"StarLess$Text", "areGuests", "()Z"⟩, 6) := ⟨⟨by decide +kernel, by decide +kernel⟩, List.mem_of_getElem? (i := 94) (by decide +kernel), List.mem_of_getElem? (i := 248) (by decide +kernel), List.mem_of_getElem? (i := 249) (by decide +kernel)⟩
theorem lw_p8 : lw_okq (⟨"StarLess$Text", "isLetter", "()Z"⟩, 6) := ⟨⟨by decide +kernel, by decide +kernel⟩, List.mem_of_getElem? (i := 94) (by decide +kernel), List.mem_of_getElem? (i := 252) (by decide +kernel), List.mem_of_getElem? (i := 253) (by decide +kernel)⟩
theorem lw_p9 : lw_okq (⟨"StarLess$House", "open", "([IIII)V"⟩, 9) := ⟨⟨by decide +kernel, by decide +kernel⟩, List.mem_of_getElem? (i := 20) (by decide +kernel), List.mem_of_getElem? (i := 256) (by decide +kernel), List.mem_of_getElem? (i := 257) (by decide +kernel)⟩
theorem lw_p10 : lw_okq (⟨"StarLess$House", "isGuest", "(I)Z"⟩, 9) := ⟨⟨by decide +kernel, by decide +kernel⟩, List.mem_of_getElem? (i := 20) (by decide +kernel), List.mem_of_getElem? (i := 267) (by decide +kernel), List.mem_of_getElem? (i := 268) (by decide +kernel)⟩
theorem lw_p11 : lw_okq (⟨"StarLess$House", "isDoing", "(I)Z"⟩, 9) := ⟨⟨by decide +kernel, by decide +kernel⟩, List.mem_of_getElem? (i := 20) (by decide +kernel), List.mem_of_getElem? (i := 275) (by decide +kernel), List.mem_of_getElem? (i := 276) (by decide +kernel)⟩
theorem lw_p12 : lw_okq (⟨"StarLess$House", "wonBy", "(I)I"⟩, 9) := ⟨⟨by decide +kernel, by decide +kernel⟩, List.mem_of_getElem? (i := 20) (by decide +kernel), List.mem_of_getElem? (i := 279) (by decide +kernel), List.mem_of_getElem? (i := 280) (by decide +kernel)⟩
theorem lw_p13 : lw_okq (⟨"StarLess$House", "isWon", "(II)Z"⟩, 9) := ⟨⟨by decide +kernel, by decide +kernel⟩, List.mem_of_getElem? (i := 20) (by decide +kernel), List.mem_of_getElem? (i := 283) (by decide +kernel), List.mem_of_getElem? (i := 284) (by decide +kernel)⟩
theorem lw_p14 : lw_okq (⟨"StarLess$House", "pleasure", "(II)I"⟩, 9) := ⟨⟨by decide +kernel, by decide +kernel⟩, List.mem_of_getElem? (i := 20) (by decide +kernel), List.mem_of_getElem? (i := 287) (by decide +kernel), List.mem_of_getElem? (i := 288) (by decide +kernel)⟩
theorem lw_p15 : lw_okq (⟨"StarLess$House", "isOpen", "()Z"⟩, 9) := ⟨⟨by decide +kernel, by decide +kernel⟩, List.mem_of_getElem? (i := 20) (by decide +kernel), List.mem_of_getElem? (i := 295) (by decide +kernel), List.mem_of_getElem? (i := 296) (by decide +kernel)⟩
def lw_privs_1 : List (MethodName × Nat) := [(⟨"StarLess$Sheets", "isSheet", "(I)Z"⟩, 4), (⟨"StarLess$Sheets", "faultAsRow", "(II)I"⟩, 4), (⟨"StarLess", "faulty", "(I)I"⟩, 8), (⟨"StarLess$Sheets", "spans", "(III)Z"⟩, 4), (⟨"StarLess$Text", "isOne", "([III)Z"⟩, 6), (⟨"StarLess$Text", "next", "(II)Z"⟩, 6), (⟨"StarLess$Text", "areDoings", "()Z"⟩, 6), (⟨"StarLess$Text", "areGuests", "()Z"⟩, 6), (⟨"StarLess$Text", "isLetter", "()Z"⟩, 6), (⟨"StarLess$House", "open", "([IIII)V"⟩, 9), (⟨"StarLess$House", "isGuest", "(I)Z"⟩, 9), (⟨"StarLess$House", "isDoing", "(I)Z"⟩, 9), (⟨"StarLess$House", "wonBy", "(I)I"⟩, 9), (⟨"StarLess$House", "isWon", "(II)Z"⟩, 9), (⟨"StarLess$House", "pleasure", "(II)I"⟩, 9), (⟨"StarLess$House", "isOpen", "()Z"⟩, 9)]
theorem lw_r1 : ∀ q ∈ lw_privs_1, lw_okq q := List.forall_mem_cons.mpr ⟨lw_p0, List.forall_mem_cons.mpr ⟨lw_p1, List.forall_mem_cons.mpr ⟨lw_p2, List.forall_mem_cons.mpr ⟨lw_p3, List.forall_mem_cons.mpr ⟨lw_p4, List.forall_mem_cons.mpr ⟨lw_p5, List.forall_mem_cons.mpr ⟨lw_p6, List.forall_mem_cons.mpr ⟨lw_p7, List.forall_mem_cons.mpr ⟨lw_p8, List.forall_mem_cons.mpr ⟨lw_p9, List.forall_mem_cons.mpr ⟨lw_p10, List.forall_mem_cons.mpr ⟨lw_p11, List.forall_mem_cons.mpr ⟨lw_p12, List.forall_mem_cons.mpr ⟨lw_p13, List.forall_mem_cons.mpr ⟨lw_p14, List.forall_mem_cons.mpr ⟨lw_p15, fun _ h => absurd h List.not_mem_nil⟩⟩⟩⟩⟩⟩⟩⟩⟩⟩⟩⟩⟩⟩⟩⟩
theorem lw_p16 : lw_okq (⟨"StarLess", "refusedPairs", "(IIII)I"⟩, 8) := ⟨⟨by decide +kernel, by decide +kernel⟩, List.mem_of_getElem? (i := 12) (by decide +kernel), List.mem_of_getElem? (i := 318) (by decide +kernel), List.mem_of_getElem? (i := 319) (by decide +kernel)⟩
theorem lw_p17 : lw_okq (⟨"StarLess$Outcome", "live", "(LStarLess$House;[IIII)V"⟩, 5) := ⟨⟨by decide +kernel, by decide +kernel⟩, List.mem_of_getElem? (i := 122) (by decide +kernel), List.mem_of_getElem? (i := 322) (by decide +kernel), List.mem_of_getElem? (i := 323) (by decide +kernel)⟩
theorem lw_p18 : lw_okq (⟨"StarLess$Outcome", "pay", "(LStarLess$House;IIIZ)V"⟩, 5) := ⟨⟨by decide +kernel, by decide +kernel⟩, List.mem_of_getElem? (i := 122) (by decide +kernel), List.mem_of_getElem? (i := 326) (by decide +kernel), List.mem_of_getElem? (i := 327) (by decide +kernel)⟩
theorem lw_p19 : lw_okq (⟨"StarLess", "refusedSeason", "(IIIII)I"⟩, 8) := ⟨⟨by decide +kernel, by decide +kernel⟩, List.mem_of_getElem? (i := 12) (by decide +kernel), List.mem_of_getElem? (i := 336) (by decide +kernel), List.mem_of_getElem? (i := 337) (by decide +kernel)⟩
theorem lw_p20 : lw_okq (⟨"StarLess$Plan", "isMade", "(LStarLess$House;)Z"⟩, 3) := ⟨⟨by decide +kernel, by decide +kernel⟩, List.mem_of_getElem? (i := 149) (by decide +kernel), List.mem_of_getElem? (i := 355) (by decide +kernel), List.mem_of_getElem? (i := 356) (by decide +kernel)⟩
theorem lw_p21 : lw_okq (⟨"StarLess$Plan", "leastOf", "(LStarLess$House;II)I"⟩, 3) := ⟨⟨by decide +kernel, by decide +kernel⟩, List.mem_of_getElem? (i := 149) (by decide +kernel), List.mem_of_getElem? (i := 359) (by decide +kernel), List.mem_of_getElem? (i := 360) (by decide +kernel)⟩
theorem lw_p22 : lw_okq (⟨"StarLess$Plan", "weight", "(LStarLess$House;III)I"⟩, 3) := ⟨⟨by decide +kernel, by decide +kernel⟩, List.mem_of_getElem? (i := 149) (by decide +kernel), List.mem_of_getElem? (i := 364) (by decide +kernel), List.mem_of_getElem? (i := 365) (by decide +kernel)⟩
theorem lw_p23 : lw_okq (⟨"StarLess$Plan", "choose", "(LStarLess$House;)V"⟩, 3) := ⟨⟨by decide +kernel, by decide +kernel⟩, List.mem_of_getElem? (i := 149) (by decide +kernel), List.mem_of_getElem? (i := 373) (by decide +kernel), List.mem_of_getElem? (i := 374) (by decide +kernel)⟩
theorem lw_p24 : lw_okq (⟨"StarLess$Plan", "firstBest", "(LStarLess$House;II)I"⟩, 3) := ⟨⟨by decide +kernel, by decide +kernel⟩, List.mem_of_getElem? (i := 149) (by decide +kernel), List.mem_of_getElem? (i := 377) (by decide +kernel), List.mem_of_getElem? (i := 378) (by decide +kernel)⟩
theorem lw_p25 : lw_okq (⟨"StarLess$Log", "add", "(IIZ)I"⟩, 4) := ⟨⟨by decide +kernel, by decide +kernel⟩, List.mem_of_getElem? (i := 168) (by decide +kernel), List.mem_of_getElem? (i := 385) (by decide +kernel), List.mem_of_getElem? (i := 386) (by decide +kernel)⟩
theorem lw_p26 : lw_okq (⟨"StarLess$Log", "isSo", "(LStarLess$House;)Z"⟩, 4) := ⟨⟨by decide +kernel, by decide +kernel⟩, List.mem_of_getElem? (i := 168) (by decide +kernel), List.mem_of_getElem? (i := 397) (by decide +kernel), List.mem_of_getElem? (i := 398) (by decide +kernel)⟩
theorem lw_p27 : lw_okq (⟨"StarLess", "fitting", "([III)I"⟩, 8) := ⟨⟨by decide +kernel, by decide +kernel⟩, List.mem_of_getElem? (i := 12) (by decide +kernel), List.mem_of_getElem? (i := 406) (by decide +kernel), List.mem_of_getElem? (i := 407) (by decide +kernel)⟩
theorem lw_p28 : lw_okq (⟨"StarLess$Sheets", "renew", "(III)V"⟩, 4) := ⟨⟨by decide +kernel, by decide +kernel⟩, List.mem_of_getElem? (i := 69) (by decide +kernel), List.mem_of_getElem? (i := 430) (by decide +kernel), List.mem_of_getElem? (i := 431) (by decide +kernel)⟩
theorem lw_p29 : lw_okq (⟨"StarLess$Sheets", "isCell", "(II)Z"⟩, 4) := ⟨⟨by decide +kernel, by decide +kernel⟩, List.mem_of_getElem? (i := 69) (by decide +kernel), List.mem_of_getElem? (i := 442) (by decide +kernel), List.mem_of_getElem? (i := 443) (by decide +kernel)⟩
theorem lw_p30 : lw_okq (⟨"StarLess", "tellAsPoet", "(I)I"⟩, 8) := ⟨⟨by decide +kernel, by decide +kernel⟩, List.mem_of_getElem? (i := 12) (by decide +kernel), List.mem_of_getElem? (i := 464) (by decide +kernel), List.mem_of_getElem? (i := 465) (by decide +kernel)⟩
theorem lw_p31 : lw_okq (⟨"StarLess", "leave", "(I)V"⟩, 8) := ⟨⟨by decide +kernel, by decide +kernel⟩, List.mem_of_getElem? (i := 12) (by decide +kernel), List.mem_of_getElem? (i := 468) (by decide +kernel), List.mem_of_getElem? (i := 469) (by decide +kernel)⟩
def lw_privs_2 : List (MethodName × Nat) := [(⟨"StarLess", "refusedPairs", "(IIII)I"⟩, 8), (⟨"StarLess$Outcome", "live", "(LStarLess$House;[IIII)V"⟩, 5), (⟨"StarLess$Outcome", "pay", "(LStarLess$House;IIIZ)V"⟩, 5), (⟨"StarLess", "refusedSeason", "(IIIII)I"⟩, 8), (⟨"StarLess$Plan", "isMade", "(LStarLess$House;)Z"⟩, 3), (⟨"StarLess$Plan", "leastOf", "(LStarLess$House;II)I"⟩, 3), (⟨"StarLess$Plan", "weight", "(LStarLess$House;III)I"⟩, 3), (⟨"StarLess$Plan", "choose", "(LStarLess$House;)V"⟩, 3), (⟨"StarLess$Plan", "firstBest", "(LStarLess$House;II)I"⟩, 3), (⟨"StarLess$Log", "add", "(IIZ)I"⟩, 4), (⟨"StarLess$Log", "isSo", "(LStarLess$House;)Z"⟩, 4), (⟨"StarLess", "fitting", "([III)I"⟩, 8), (⟨"StarLess$Sheets", "renew", "(III)V"⟩, 4), (⟨"StarLess$Sheets", "isCell", "(II)Z"⟩, 4), (⟨"StarLess", "tellAsPoet", "(I)I"⟩, 8), (⟨"StarLess", "leave", "(I)V"⟩, 8)]
theorem lw_r2 : ∀ q ∈ lw_privs_2, lw_okq q := List.forall_mem_cons.mpr ⟨lw_p16, List.forall_mem_cons.mpr ⟨lw_p17, List.forall_mem_cons.mpr ⟨lw_p18, List.forall_mem_cons.mpr ⟨lw_p19, List.forall_mem_cons.mpr ⟨lw_p20, List.forall_mem_cons.mpr ⟨lw_p21, List.forall_mem_cons.mpr ⟨lw_p22, List.forall_mem_cons.mpr ⟨lw_p23, List.forall_mem_cons.mpr ⟨lw_p24, List.forall_mem_cons.mpr ⟨lw_p25, List.forall_mem_cons.mpr ⟨lw_p26, List.forall_mem_cons.mpr ⟨lw_p27, List.forall_mem_cons.mpr ⟨lw_p28, List.forall_mem_cons.mpr ⟨lw_p29, List.forall_mem_cons.mpr ⟨lw_p30, List.forall_mem_cons.mpr ⟨lw_p31, fun _ h => absurd h List.not_mem_nil⟩⟩⟩⟩⟩⟩⟩⟩⟩⟩⟩⟩⟩⟩⟩⟩
theorem lw_p32 : lw_okq (⟨"StarLess", "tellAsCritic", "(I)I"⟩, 8) := ⟨⟨by decide +kernel, by decide +kernel⟩, List.mem_of_getElem? (i := 12) (by decide +kernel), List.mem_of_getElem? (i := 472) (by decide +kernel), List.mem_of_getElem? (i := 473) (by decide +kernel)⟩
theorem lw_p33 : lw_okq (⟨"StarLess", "tellAsGuest", "(I)I"⟩, 8) := ⟨⟨by decide +kernel, by decide +kernel⟩, List.mem_of_getElem? (i := 12) (by decide +kernel), List.mem_of_getElem? (i := 476) (by decide +kernel), List.mem_of_getElem? (i := 477) (by decide +kernel)⟩
theorem lw_p34 : lw_okq (⟨"StarLessModel", "refused", "(I)I"⟩, 38) := ⟨⟨by decide +kernel, by decide +kernel⟩, List.mem_of_getElem? (i := 500) (by decide +kernel), List.mem_of_getElem? (i := 632) (by decide +kernel), List.mem_of_getElem? (i := 633) (by decide +kernel)⟩
theorem lw_p35 : lw_okq (⟨"StarLessModel", "cellsBarred", "(IIIJ)I"⟩, 38) := ⟨⟨by decide +kernel, by decide +kernel⟩, List.mem_of_getElem? (i := 500) (by decide +kernel), List.mem_of_getElem? (i := 637) (by decide +kernel), List.mem_of_getElem? (i := 638) (by decide +kernel)⟩
theorem lw_p36 : lw_okq (⟨"StarLessModel", "failed", "(I)I"⟩, 38) := ⟨⟨by decide +kernel, by decide +kernel⟩, List.mem_of_getElem? (i := 500) (by decide +kernel), List.mem_of_getElem? (i := 641) (by decide +kernel), List.mem_of_getElem? (i := 642) (by decide +kernel)⟩
theorem lw_p37 : lw_okq (⟨"StarLessModel", "readsHotel", "(II)Z"⟩, 38) := ⟨⟨by decide +kernel, by decide +kernel⟩, List.mem_of_getElem? (i := 500) (by decide +kernel), List.mem_of_getElem? (i := 648) (by decide +kernel), List.mem_of_getElem? (i := 649) (by decide +kernel)⟩
theorem lw_p38 : lw_okq (⟨"StarLessModel", "codeAt", "(II)I"⟩, 38) := ⟨⟨by decide +kernel, by decide +kernel⟩, List.mem_of_getElem? (i := 500) (by decide +kernel), List.mem_of_getElem? (i := 652) (by decide +kernel), List.mem_of_getElem? (i := 653) (by decide +kernel)⟩
theorem lw_p39 : lw_okq (⟨"StarLessModel", "figure", "(IIII)I"⟩, 38) := ⟨⟨by decide +kernel, by decide +kernel⟩, List.mem_of_getElem? (i := 500) (by decide +kernel), List.mem_of_getElem? (i := 656) (by decide +kernel), List.mem_of_getElem? (i := 657) (by decide +kernel)⟩
theorem lw_p40 : lw_okq (⟨"StarLessModel", "readsDoing", "(II)Z"⟩, 38) := ⟨⟨by decide +kernel, by decide +kernel⟩, List.mem_of_getElem? (i := 500) (by decide +kernel), List.mem_of_getElem? (i := 660) (by decide +kernel), List.mem_of_getElem? (i := 661) (by decide +kernel)⟩
theorem lw_p41 : lw_okq (⟨"StarLessModel", "readsGuest", "(II)Z"⟩, 38) := ⟨⟨by decide +kernel, by decide +kernel⟩, List.mem_of_getElem? (i := 500) (by decide +kernel), List.mem_of_getElem? (i := 664) (by decide +kernel), List.mem_of_getElem? (i := 665) (by decide +kernel)⟩
theorem lw_p42 : lw_okq (⟨"StarLessModel", "noGuest", "(I)Z"⟩, 38) := ⟨⟨by decide +kernel, by decide +kernel⟩, List.mem_of_getElem? (i := 500) (by decide +kernel), List.mem_of_getElem? (i := 672) (by decide +kernel), List.mem_of_getElem? (i := 673) (by decide +kernel)⟩
theorem lw_p43 : lw_okq (⟨"StarLessModel", "noDoing", "(I)Z"⟩, 38) := ⟨⟨by decide +kernel, by decide +kernel⟩, List.mem_of_getElem? (i := 500) (by decide +kernel), List.mem_of_getElem? (i := 680) (by decide +kernel), List.mem_of_getElem? (i := 681) (by decide +kernel)⟩
theorem lw_p44 : lw_okq (⟨"StarLessModel", "losersOf", "(I)I"⟩, 38) := ⟨⟨by decide +kernel, by decide +kernel⟩, List.mem_of_getElem? (i := 500) (by decide +kernel), List.mem_of_getElem? (i := 684) (by decide +kernel), List.mem_of_getElem? (i := 685) (by decide +kernel)⟩
theorem lw_p45 : lw_okq (⟨"StarLessModel", "doesLose", "(II)Z"⟩, 38) := ⟨⟨by decide +kernel, by decide +kernel⟩, List.mem_of_getElem? (i := 500) (by decide +kernel), List.mem_of_getElem? (i := 688) (by decide +kernel), List.mem_of_getElem? (i := 689) (by decide +kernel)⟩
theorem lw_p46 : lw_okq (⟨"StarLessModel", "pleasedBy", "(II)I"⟩, 38) := ⟨⟨by decide +kernel, by decide +kernel⟩, List.mem_of_getElem? (i := 500) (by decide +kernel), List.mem_of_getElem? (i := 692) (by decide +kernel), List.mem_of_getElem? (i := 693) (by decide +kernel)⟩
theorem lw_p47 : lw_okq (⟨"StarLessModel", "pairsBarred", "(IIII)I"⟩, 38) := ⟨⟨by decide +kernel, by decide +kernel⟩, List.mem_of_getElem? (i := 500) (by decide +kernel), List.mem_of_getElem? (i := 716) (by decide +kernel), List.mem_of_getElem? (i := 717) (by decide +kernel)⟩
def lw_privs_3 : List (MethodName × Nat) := [(⟨"StarLess", "tellAsCritic", "(I)I"⟩, 8), (⟨"StarLess", "tellAsGuest", "(I)I"⟩, 8), (⟨"StarLessModel", "refused", "(I)I"⟩, 38), (⟨"StarLessModel", "cellsBarred", "(IIIJ)I"⟩, 38), (⟨"StarLessModel", "failed", "(I)I"⟩, 38), (⟨"StarLessModel", "readsHotel", "(II)Z"⟩, 38), (⟨"StarLessModel", "codeAt", "(II)I"⟩, 38), (⟨"StarLessModel", "figure", "(IIII)I"⟩, 38), (⟨"StarLessModel", "readsDoing", "(II)Z"⟩, 38), (⟨"StarLessModel", "readsGuest", "(II)Z"⟩, 38), (⟨"StarLessModel", "noGuest", "(I)Z"⟩, 38), (⟨"StarLessModel", "noDoing", "(I)Z"⟩, 38), (⟨"StarLessModel", "losersOf", "(I)I"⟩, 38), (⟨"StarLessModel", "doesLose", "(II)Z"⟩, 38), (⟨"StarLessModel", "pleasedBy", "(II)I"⟩, 38), (⟨"StarLessModel", "pairsBarred", "(IIII)I"⟩, 38)]
theorem lw_r3 : ∀ q ∈ lw_privs_3, lw_okq q := List.forall_mem_cons.mpr ⟨lw_p32, List.forall_mem_cons.mpr ⟨lw_p33, List.forall_mem_cons.mpr ⟨lw_p34, List.forall_mem_cons.mpr ⟨lw_p35, List.forall_mem_cons.mpr ⟨lw_p36, List.forall_mem_cons.mpr ⟨lw_p37, List.forall_mem_cons.mpr ⟨lw_p38, List.forall_mem_cons.mpr ⟨lw_p39, List.forall_mem_cons.mpr ⟨lw_p40, List.forall_mem_cons.mpr ⟨lw_p41, List.forall_mem_cons.mpr ⟨lw_p42, List.forall_mem_cons.mpr ⟨lw_p43, List.forall_mem_cons.mpr ⟨lw_p44, List.forall_mem_cons.mpr ⟨lw_p45, List.forall_mem_cons.mpr ⟨lw_p46, List.forall_mem_cons.mpr ⟨lw_p47, fun _ h => absurd h List.not_mem_nil⟩⟩⟩⟩⟩⟩⟩⟩⟩⟩⟩⟩⟩⟩⟩⟩
theorem lw_p48 : lw_okq (⟨"StarLessModel", "goSeason", "(III)V"⟩, 38) := ⟨⟨by decide +kernel, by decide +kernel⟩, List.mem_of_getElem? (i := 500) (by decide +kernel), List.mem_of_getElem? (i := 720) (by decide +kernel), List.mem_of_getElem? (i := 721) (by decide +kernel)⟩
theorem lw_p49 : lw_okq (⟨"StarLessModel", "endingWith", "(IIII)I"⟩, 38) := ⟨⟨by decide +kernel, by decide +kernel⟩, List.mem_of_getElem? (i := 500) (by decide +kernel), List.mem_of_getElem? (i := 728) (by decide +kernel), List.mem_of_getElem? (i := 729) (by decide +kernel)⟩
theorem lw_p50 : lw_okq (⟨"StarLessModel", "everybody", "()I"⟩, 38) := ⟨⟨by decide +kernel, by decide +kernel⟩, List.mem_of_getElem? (i := 500) (by decide +kernel), List.mem_of_getElem? (i := 736) (by decide +kernel), List.mem_of_getElem? (i := 737) (by decide +kernel)⟩
theorem lw_p51 : lw_okq (⟨"StarLessModel", "layRow", "(I)V"⟩, 38) := ⟨⟨by decide +kernel, by decide +kernel⟩, List.mem_of_getElem? (i := 500) (by decide +kernel), List.mem_of_getElem? (i := 751) (by decide +kernel), List.mem_of_getElem? (i := 752) (by decide +kernel)⟩
theorem lw_p52 : lw_okq (⟨"StarLessModel", "areSo", "()Z"⟩, 38) := ⟨⟨by decide +kernel, by decide +kernel⟩, List.mem_of_getElem? (i := 500) (by decide +kernel), List.mem_of_getElem? (i := 767) (by decide +kernel), List.mem_of_getElem? (i := 768) (by decide +kernel)⟩
theorem lw_p53 : lw_okq (⟨"StarLessModel", "refusedLong", "()J"⟩, 38) := ⟨⟨by decide +kernel, by decide +kernel⟩, List.mem_of_getElem? (i := 500) (by decide +kernel), List.mem_of_getElem? (i := 787) (by decide +kernel), List.mem_of_getElem? (i := 788) (by decide +kernel)⟩
theorem lw_p54 : lw_okq (⟨"StarLessModel", "noCell", "(II)I"⟩, 38) := ⟨⟨by decide +kernel, by decide +kernel⟩, List.mem_of_getElem? (i := 500) (by decide +kernel), List.mem_of_getElem? (i := 810) (by decide +kernel), List.mem_of_getElem? (i := 811) (by decide +kernel)⟩
theorem lw_p55 : lw_okq (⟨"StarLessModel", "failedLong", "(I)J"⟩, 38) := ⟨⟨by decide +kernel, by decide +kernel⟩, List.mem_of_getElem? (i := 500) (by decide +kernel), List.mem_of_getElem? (i := 818) (by decide +kernel), List.mem_of_getElem? (i := 819) (by decide +kernel)⟩
theorem lw_p56 : lw_okq (⟨"StarLessModel", "traced", "(I)V"⟩, 38) := ⟨⟨by decide +kernel, by decide +kernel⟩, List.mem_of_getElem? (i := 500) (by decide +kernel), List.mem_of_getElem? (i := 830) (by decide +kernel), List.mem_of_getElem? (i := 831) (by decide +kernel)⟩
def lw_privs_4 : List (MethodName × Nat) := [(⟨"StarLessModel", "goSeason", "(III)V"⟩, 38), (⟨"StarLessModel", "endingWith", "(IIII)I"⟩, 38), (⟨"StarLessModel", "everybody", "()I"⟩, 38), (⟨"StarLessModel", "layRow", "(I)V"⟩, 38), (⟨"StarLessModel", "areSo", "()Z"⟩, 38), (⟨"StarLessModel", "refusedLong", "()J"⟩, 38), (⟨"StarLessModel", "noCell", "(II)I"⟩, 38), (⟨"StarLessModel", "failedLong", "(I)J"⟩, 38), (⟨"StarLessModel", "traced", "(I)V"⟩, 38)]
theorem lw_r4 : ∀ q ∈ lw_privs_4, lw_okq q := List.forall_mem_cons.mpr ⟨lw_p48, List.forall_mem_cons.mpr ⟨lw_p49, List.forall_mem_cons.mpr ⟨lw_p50, List.forall_mem_cons.mpr ⟨lw_p51, List.forall_mem_cons.mpr ⟨lw_p52, List.forall_mem_cons.mpr ⟨lw_p53, List.forall_mem_cons.mpr ⟨lw_p54, List.forall_mem_cons.mpr ⟨lw_p55, List.forall_mem_cons.mpr ⟨lw_p56, fun _ h => absurd h List.not_mem_nil⟩⟩⟩⟩⟩⟩⟩⟩⟩
def lw_privs : List (MethodName × Nat) := lw_privs_1 ++ (lw_privs_2 ++ (lw_privs_3 ++ (lw_privs_4)))
def lw_tbl : List Cond := k2_sels lw_privs ++ tables_1
theorem lw_privs_ok : ∀ q ∈ lw_privs, lw_okq q := by
  show ∀ q ∈ lw_privs_1 ++ (lw_privs_2 ++ (lw_privs_3 ++ (lw_privs_4))), lw_okq q
  exact List.forall_mem_append.mpr ⟨lw_r1, List.forall_mem_append.mpr ⟨lw_r2, List.forall_mem_append.mpr ⟨lw_r3, lw_r4⟩⟩⟩
/-- the words that any method may lean on, and the links of nest mates beside them -/
def zNest : Cond → Bool
  | .fieldLinkNest .. => true
  | .methodLinkNest .. => true
  | _ => false
def zWs : List Cond := lw_tbl.filter goodWord
def zNs : List Cond := tables_1.filter zNest
theorem kw_of {w : Cond} (n : Nat) (h : tables_1[n]? = some w) (g : goodWord w = true) : w ∈ zWs := List.mem_filter.mpr ⟨List.mem_append_right _ (List.mem_of_getElem? h), g⟩
theorem kn_of {w : Cond} (n : Nat) (h : tables_1[n]? = some w) (g : zNest w = true) : w ∈ zNs := List.mem_filter.mpr ⟨List.mem_of_getElem? h, g⟩
theorem ks_of {q : MethodName × Nat} (n : Nat) (h : lw_privs[n]? = some q) (g : goodWord (Cond.selects q.1.cls q.1 q.1) = true) : Cond.selects q.1.cls q.1 q.1 ∈ zWs := List.mem_filter.mpr ⟨List.mem_append_left _ (List.mem_map.mpr ⟨q, List.mem_of_getElem? h, rfl⟩), g⟩
theorem kw_0 : (Jvm.Cond.initialized "StarLessLaw") ∈ zWs := kw_of 0 (by decide +kernel) rfl
theorem kw_1 : (Jvm.Cond.initialized "StarLess") ∈ zWs := kw_of 1 (by decide +kernel) rfl
theorem kw_2 : (Jvm.Cond.initialized "StarLess$House") ∈ zWs := kw_of 2 (by decide +kernel) rfl
theorem kw_3 : (Jvm.Cond.initialized "StarLess$Sheets") ∈ zWs := kw_of 3 (by decide +kernel) rfl
theorem kw_4 : (Jvm.Cond.initialized "StarLess$Text") ∈ zWs := kw_of 4 (by decide +kernel) rfl
theorem kw_5 : (Jvm.Cond.initialized "StarLess$Outcome") ∈ zWs := kw_of 5 (by decide +kernel) rfl
theorem kw_6 : (Jvm.Cond.initialized "StarLess$Plan") ∈ zWs := kw_of 6 (by decide +kernel) rfl
theorem kw_7 : (Jvm.Cond.initialized "StarLess$Log") ∈ zWs := kw_of 7 (by decide +kernel) rfl
theorem kw_8 : (Jvm.Cond.initialized "StarLessModel") ∈ zWs := kw_of 8 (by decide +kernel) rfl
theorem kw_9 : (Jvm.Cond.initialized "java/lang/Math") ∈ zWs := kw_of 9 (by decide +kernel) rfl
theorem kw_10 : (Jvm.Cond.initialized "java/lang/System") ∈ zWs := kw_of 10 (by decide +kernel) rfl
theorem kw_11 : (Jvm.Cond.classLink "StarLessLaw" (7 : Nat) "StarLess") ∈ zWs := kw_of 11 (by decide +kernel) rfl
theorem kw_12 : (Jvm.Cond.instantiable "StarLess" (8 : Nat)) ∈ zWs := kw_of 12 (by decide +kernel) rfl
theorem kw_13 : (Jvm.Cond.methodLink "StarLessLaw" (9 : Nat) ({ cls := "StarLess", name := "<init>", desc := "()V" } : Jvm.MethodName)) ∈ zWs := kw_of 13 (by decide +kernel) rfl
theorem kw_14 : (Jvm.Cond.instanceMethod ({ cls := "StarLess", name := "<init>", desc := "()V" } : Jvm.MethodName)) ∈ zWs := kw_of 14 (by decide +kernel) rfl
theorem kw_15 : (Jvm.Cond.code ({ cls := "StarLess", name := "<init>", desc := "()V" } : Jvm.MethodName) prog_1_method_1_code (1 : Nat) (Option.none : Option Jvm.ClassFile.FieldType)) ∈ zWs := kw_of 15 (by decide +kernel) rfl
theorem kw_16 : (Jvm.Cond.methodLink "StarLess" (3 : Nat) ({ cls := "java/lang/Object", name := "<init>", desc := "()V" } : Jvm.MethodName)) ∈ zWs := kw_of 16 (by decide +kernel) rfl
theorem kw_17 : (Jvm.Cond.instanceMethod ({ cls := "java/lang/Object", name := "<init>", desc := "()V" } : Jvm.MethodName)) ∈ zWs := kw_of 17 (by decide +kernel) rfl
theorem kw_18 : (Jvm.Cond.code ({ cls := "java/lang/Object", name := "<init>", desc := "()V" } : Jvm.MethodName) object_method_1_code (1 : Nat) (Option.none : Option Jvm.ClassFile.FieldType)) ∈ zWs := kw_of 18 (by decide +kernel) rfl
theorem kw_19 : (Jvm.Cond.classLink "StarLess" (9 : Nat) "StarLess$House") ∈ zWs := kw_of 19 (by decide +kernel) rfl
theorem kw_20 : (Jvm.Cond.instantiable "StarLess$House" (9 : Nat)) ∈ zWs := kw_of 20 (by decide +kernel) rfl
theorem kw_21 : (Jvm.Cond.methodLinkNest "StarLess" (11 : Nat) ({ cls := "StarLess$House", name := "<init>", desc := "()V" } : Jvm.MethodName) "StarLess") ∈ zNs := kn_of 21 (by decide +kernel) rfl
theorem kw_22 : (Jvm.Cond.instanceMethod ({ cls := "StarLess$House", name := "<init>", desc := "()V" } : Jvm.MethodName)) ∈ zWs := kw_of 22 (by decide +kernel) rfl
theorem kw_23 : (Jvm.Cond.code ({ cls := "StarLess$House", name := "<init>", desc := "()V" } : Jvm.MethodName) prog_2_method_1_code (1 : Nat) (Option.none : Option Jvm.ClassFile.FieldType)) ∈ zWs := kw_of 23 (by decide +kernel) rfl
theorem kw_24 : (Jvm.Cond.methodLink "StarLess$House" (3 : Nat) ({ cls := "java/lang/Object", name := "<init>", desc := "()V" } : Jvm.MethodName)) ∈ zWs := kw_of 24 (by decide +kernel) rfl
theorem kw_25 : (Jvm.Cond.fieldLinkNest "StarLess$Outcome" (9 : Nat) "StarLess$House" "stars" "I" "StarLess") ∈ zNs := kn_of 25 (by decide +kernel) rfl
theorem kw_26 : (Jvm.Cond.fieldLink "StarLess$House" (34 : Nat) "StarLess$House" "stars" "I") ∈ zWs := kw_of 26 (by decide +kernel) rfl
theorem kw_27 : (Jvm.Cond.fieldLinkNest "StarLess" (136 : Nat) "StarLess$House" "stars" "I" "StarLess") ∈ zNs := kn_of 27 (by decide +kernel) rfl
theorem kw_28 : (Jvm.Cond.fieldLink "StarLess$House" (37 : Nat) "StarLess$House" "strict" "I") ∈ zWs := kw_of 28 (by decide +kernel) rfl
theorem kw_29 : (Jvm.Cond.fieldLinkNest "StarLess" (130 : Nat) "StarLess$House" "strict" "I" "StarLess") ∈ zNs := kn_of 29 (by decide +kernel) rfl
theorem kw_30 : (Jvm.Cond.fieldLinkNest "StarLess$Plan" (35 : Nat) "StarLess$House" "doings" "I" "StarLess") ∈ zNs := kn_of 30 (by decide +kernel) rfl
theorem kw_31 : (Jvm.Cond.fieldLink "StarLess$House" (31 : Nat) "StarLess$House" "doings" "I") ∈ zWs := kw_of 31 (by decide +kernel) rfl
theorem kw_32 : (Jvm.Cond.fieldLinkNest "StarLess" (169 : Nat) "StarLess$House" "doings" "I" "StarLess") ∈ zNs := kn_of 32 (by decide +kernel) rfl
theorem kw_33 : (Jvm.Cond.fieldLink "StarLess$House" (27 : Nat) "StarLess$House" "guests" "I") ∈ zWs := kw_of 33 (by decide +kernel) rfl
theorem kw_34 : (Jvm.Cond.fieldLinkNest "StarLess$Plan" (20 : Nat) "StarLess$House" "guests" "I" "StarLess") ∈ zNs := kn_of 34 (by decide +kernel) rfl
theorem kw_35 : (Jvm.Cond.fieldLinkNest "StarLess" (100 : Nat) "StarLess$House" "guests" "I" "StarLess") ∈ zNs := kn_of 35 (by decide +kernel) rfl
theorem kw_36 : (Jvm.Cond.fieldLink "StarLess$House" (9 : Nat) "StarLess$House" "charm" "[I") ∈ zWs := kw_of 36 (by decide +kernel) rfl
theorem kw_37 : (Jvm.Cond.fieldLinkNest "StarLess" (117 : Nat) "StarLess$House" "charm" "[I" "StarLess") ∈ zNs := kn_of 37 (by decide +kernel) rfl
theorem kw_38 : (Jvm.Cond.fieldLink "StarLess$House" (15 : Nat) "StarLess$House" "cost" "[I") ∈ zWs := kw_of 38 (by decide +kernel) rfl
theorem kw_39 : (Jvm.Cond.fieldLinkNest "StarLess$Outcome" (30 : Nat) "StarLess$House" "cost" "[I" "StarLess") ∈ zNs := kn_of 39 (by decide +kernel) rfl
theorem kw_40 : (Jvm.Cond.fieldLinkNest "StarLess$Plan" (48 : Nat) "StarLess$House" "cost" "[I" "StarLess") ∈ zNs := kn_of 40 (by decide +kernel) rfl
theorem kw_41 : (Jvm.Cond.fieldLinkNest "StarLess" (120 : Nat) "StarLess$House" "cost" "[I" "StarLess") ∈ zNs := kn_of 41 (by decide +kernel) rfl
theorem kw_42 : (Jvm.Cond.fieldLink "StarLess$House" (18 : Nat) "StarLess$House" "kind" "[I") ∈ zWs := kw_of 42 (by decide +kernel) rfl
theorem kw_43 : (Jvm.Cond.fieldLinkNest "StarLess" (104 : Nat) "StarLess$House" "kind" "[I" "StarLess") ∈ zNs := kn_of 43 (by decide +kernel) rfl
theorem kw_44 : (Jvm.Cond.fieldLink "StarLess$House" (21 : Nat) "StarLess$House" "taste" "[I") ∈ zWs := kw_of 44 (by decide +kernel) rfl
theorem kw_45 : (Jvm.Cond.fieldLinkNest "StarLess" (108 : Nat) "StarLess$House" "taste" "[I" "StarLess") ∈ zNs := kn_of 45 (by decide +kernel) rfl
theorem kw_46 : (Jvm.Cond.fieldLink "StarLess$House" (24 : Nat) "StarLess$House" "love" "[I") ∈ zWs := kw_of 46 (by decide +kernel) rfl
theorem kw_47 : (Jvm.Cond.fieldLinkNest "StarLess" (111 : Nat) "StarLess$House" "love" "[I" "StarLess") ∈ zNs := kn_of 47 (by decide +kernel) rfl
theorem kw_67 : (Jvm.Cond.arrayClass Jvm.ClassFile.FieldType.int) ∈ zWs := kw_of 67 (by decide +kernel) rfl
theorem kw_68 : (Jvm.Cond.classLink "StarLess" (18 : Nat) "StarLess$Sheets") ∈ zWs := kw_of 68 (by decide +kernel) rfl
theorem kw_69 : (Jvm.Cond.instantiable "StarLess$Sheets" (4 : Nat)) ∈ zWs := kw_of 69 (by decide +kernel) rfl
theorem kw_70 : (Jvm.Cond.methodLinkNest "StarLess" (20 : Nat) ({ cls := "StarLess$Sheets", name := "<init>", desc := "()V" } : Jvm.MethodName) "StarLess") ∈ zNs := kn_of 70 (by decide +kernel) rfl
theorem kw_71 : (Jvm.Cond.instanceMethod ({ cls := "StarLess$Sheets", name := "<init>", desc := "()V" } : Jvm.MethodName)) ∈ zWs := kw_of 71 (by decide +kernel) rfl
theorem kw_72 : (Jvm.Cond.code ({ cls := "StarLess$Sheets", name := "<init>", desc := "()V" } : Jvm.MethodName) prog_6_method_1_code (1 : Nat) (Option.none : Option Jvm.ClassFile.FieldType)) ∈ zWs := kw_of 72 (by decide +kernel) rfl
theorem kw_73 : (Jvm.Cond.methodLink "StarLess$Sheets" (3 : Nat) ({ cls := "java/lang/Object", name := "<init>", desc := "()V" } : Jvm.MethodName)) ∈ zWs := kw_of 73 (by decide +kernel) rfl
theorem kw_74 : (Jvm.Cond.classLink "StarLess$Sheets" (9 : Nat) "[[I") ∈ zWs := kw_of 74 (by decide +kernel) rfl
theorem kw_76 : (Jvm.Cond.fieldLink "StarLess$Sheets" (11 : Nat) "StarLess$Sheets" "rows" "[[I") ∈ zWs := kw_of 76 (by decide +kernel) rfl
theorem kw_77 : (Jvm.Cond.fieldLinkNest "StarLess" (76 : Nat) "StarLess$Sheets" "rows" "[[I" "StarLess") ∈ zNs := kn_of 77 (by decide +kernel) rfl
theorem kw_78 : (Jvm.Cond.fieldLink "StarLess$Sheets" (16 : Nat) "StarLess$Sheets" "there" "[Z") ∈ zWs := kw_of 78 (by decide +kernel) rfl
theorem kw_79 : (Jvm.Cond.fieldLinkNest "StarLess" (203 : Nat) "StarLess$Sheets" "there" "[Z" "StarLess") ∈ zNs := kn_of 79 (by decide +kernel) rfl
theorem kw_80 : (Jvm.Cond.fieldLink "StarLess$Sheets" (20 : Nat) "StarLess$Sheets" "lanes" "[I") ∈ zWs := kw_of 80 (by decide +kernel) rfl
theorem kw_81 : (Jvm.Cond.fieldLinkNest "StarLess" (211 : Nat) "StarLess$Sheets" "lanes" "[I" "StarLess") ∈ zNs := kn_of 81 (by decide +kernel) rfl
theorem kw_82 : (Jvm.Cond.fieldLink "StarLess$Sheets" (24 : Nat) "StarLess$Sheets" "lengths" "[I") ∈ zWs := kw_of 82 (by decide +kernel) rfl
theorem kw_92 : (Jvm.Cond.arrayClass Jvm.ClassFile.FieldType.boolean) ∈ zWs := kw_of 92 (by decide +kernel) rfl
theorem kw_93 : (Jvm.Cond.classLink "StarLess" (25 : Nat) "StarLess$Text") ∈ zWs := kw_of 93 (by decide +kernel) rfl
theorem kw_94 : (Jvm.Cond.instantiable "StarLess$Text" (6 : Nat)) ∈ zWs := kw_of 94 (by decide +kernel) rfl
theorem kw_95 : (Jvm.Cond.methodLinkNest "StarLess" (27 : Nat) ({ cls := "StarLess$Text", name := "<init>", desc := "()V" } : Jvm.MethodName) "StarLess") ∈ zNs := kn_of 95 (by decide +kernel) rfl
theorem kw_96 : (Jvm.Cond.instanceMethod ({ cls := "StarLess$Text", name := "<init>", desc := "()V" } : Jvm.MethodName)) ∈ zWs := kw_of 96 (by decide +kernel) rfl
theorem kw_97 : (Jvm.Cond.code ({ cls := "StarLess$Text", name := "<init>", desc := "()V" } : Jvm.MethodName) prog_7_method_1_code (1 : Nat) (Option.none : Option Jvm.ClassFile.FieldType)) ∈ zWs := kw_of 97 (by decide +kernel) rfl
theorem kw_98 : (Jvm.Cond.methodLink "StarLess$Text" (3 : Nat) ({ cls := "java/lang/Object", name := "<init>", desc := "()V" } : Jvm.MethodName)) ∈ zWs := kw_of 98 (by decide +kernel) rfl
theorem kw_99 : (Jvm.Cond.fieldLink "StarLess$Text" (9 : Nat) "StarLess$Text" "row" "[I") ∈ zWs := kw_of 99 (by decide +kernel) rfl
theorem kw_100 : (Jvm.Cond.fieldLink "StarLess$Text" (15 : Nat) "StarLess$Text" "from" "I") ∈ zWs := kw_of 100 (by decide +kernel) rfl
theorem kw_101 : (Jvm.Cond.fieldLink "StarLess$Text" (19 : Nat) "StarLess$Text" "length" "I") ∈ zWs := kw_of 101 (by decide +kernel) rfl
theorem kw_102 : (Jvm.Cond.fieldLink "StarLess$Text" (22 : Nat) "StarLess$Text" "place" "I") ∈ zWs := kw_of 102 (by decide +kernel) rfl
theorem kw_103 : (Jvm.Cond.fieldLinkNest "StarLess" (84 : Nat) "StarLess$Text" "place" "I" "StarLess") ∈ zNs := kn_of 103 (by decide +kernel) rfl
theorem kw_104 : (Jvm.Cond.fieldLinkNest "StarLess" (87 : Nat) "StarLess$Text" "doings" "I" "StarLess") ∈ zNs := kn_of 104 (by decide +kernel) rfl
theorem kw_105 : (Jvm.Cond.fieldLink "StarLess$Text" (36 : Nat) "StarLess$Text" "doings" "I") ∈ zWs := kw_of 105 (by decide +kernel) rfl
theorem kw_106 : (Jvm.Cond.fieldLinkNest "StarLess" (90 : Nat) "StarLess$Text" "guests" "I" "StarLess") ∈ zNs := kn_of 106 (by decide +kernel) rfl
theorem kw_107 : (Jvm.Cond.fieldLink "StarLess$Text" (39 : Nat) "StarLess$Text" "guests" "I") ∈ zWs := kw_of 107 (by decide +kernel) rfl
theorem kw_121 : (Jvm.Cond.classLink "StarLess" (32 : Nat) "StarLess$Outcome") ∈ zWs := kw_of 121 (by decide +kernel) rfl
theorem kw_122 : (Jvm.Cond.instantiable "StarLess$Outcome" (5 : Nat)) ∈ zWs := kw_of 122 (by decide +kernel) rfl
theorem kw_123 : (Jvm.Cond.methodLinkNest "StarLess" (34 : Nat) ({ cls := "StarLess$Outcome", name := "<init>", desc := "()V" } : Jvm.MethodName) "StarLess") ∈ zNs := kn_of 123 (by decide +kernel) rfl
theorem kw_124 : (Jvm.Cond.instanceMethod ({ cls := "StarLess$Outcome", name := "<init>", desc := "()V" } : Jvm.MethodName)) ∈ zWs := kw_of 124 (by decide +kernel) rfl
theorem kw_125 : (Jvm.Cond.code ({ cls := "StarLess$Outcome", name := "<init>", desc := "()V" } : Jvm.MethodName) prog_4_method_1_code (1 : Nat) (Option.none : Option Jvm.ClassFile.FieldType)) ∈ zWs := kw_of 125 (by decide +kernel) rfl
theorem kw_126 : (Jvm.Cond.methodLink "StarLess$Outcome" (3 : Nat) ({ cls := "java/lang/Object", name := "<init>", desc := "()V" } : Jvm.MethodName)) ∈ zWs := kw_of 126 (by decide +kernel) rfl
theorem kw_127 : (Jvm.Cond.fieldLink "StarLess$Outcome" (15 : Nat) "StarLess$Outcome" "stars" "I") ∈ zWs := kw_of 127 (by decide +kernel) rfl
theorem kw_128 : (Jvm.Cond.fieldLinkNest "StarLess" (156 : Nat) "StarLess$Outcome" "stars" "I" "StarLess") ∈ zNs := kn_of 128 (by decide +kernel) rfl
theorem kw_129 : (Jvm.Cond.fieldLink "StarLess$Outcome" (18 : Nat) "StarLess$Outcome" "wrong" "I") ∈ zWs := kw_of 129 (by decide +kernel) rfl
theorem kw_130 : (Jvm.Cond.fieldLinkNest "StarLess" (153 : Nat) "StarLess$Outcome" "wrong" "I" "StarLess") ∈ zNs := kn_of 130 (by decide +kernel) rfl
theorem kw_131 : (Jvm.Cond.fieldLink "StarLess$Outcome" (21 : Nat) "StarLess$Outcome" "empty" "I") ∈ zWs := kw_of 131 (by decide +kernel) rfl
theorem kw_132 : (Jvm.Cond.fieldLinkNest "StarLess" (157 : Nat) "StarLess$Outcome" "empty" "I" "StarLess") ∈ zNs := kn_of 132 (by decide +kernel) rfl
theorem kw_133 : (Jvm.Cond.fieldLink "StarLess$Outcome" (24 : Nat) "StarLess$Outcome" "left" "I") ∈ zWs := kw_of 133 (by decide +kernel) rfl
theorem kw_134 : (Jvm.Cond.fieldLinkNest "StarLess" (160 : Nat) "StarLess$Outcome" "left" "I" "StarLess") ∈ zNs := kn_of 134 (by decide +kernel) rfl
theorem kw_135 : (Jvm.Cond.fieldLink "StarLess$Outcome" (27 : Nat) "StarLess$Outcome" "pleasure" "I") ∈ zWs := kw_of 135 (by decide +kernel) rfl
theorem kw_136 : (Jvm.Cond.fieldLinkNest "StarLess" (163 : Nat) "StarLess$Outcome" "pleasure" "I" "StarLess") ∈ zNs := kn_of 136 (by decide +kernel) rfl
theorem kw_148 : (Jvm.Cond.classLink "StarLess" (39 : Nat) "StarLess$Plan") ∈ zWs := kw_of 148 (by decide +kernel) rfl
theorem kw_149 : (Jvm.Cond.instantiable "StarLess$Plan" (3 : Nat)) ∈ zWs := kw_of 149 (by decide +kernel) rfl
theorem kw_150 : (Jvm.Cond.methodLinkNest "StarLess" (41 : Nat) ({ cls := "StarLess$Plan", name := "<init>", desc := "()V" } : Jvm.MethodName) "StarLess") ∈ zNs := kn_of 150 (by decide +kernel) rfl
theorem kw_151 : (Jvm.Cond.instanceMethod ({ cls := "StarLess$Plan", name := "<init>", desc := "()V" } : Jvm.MethodName)) ∈ zWs := kw_of 151 (by decide +kernel) rfl
theorem kw_152 : (Jvm.Cond.code ({ cls := "StarLess$Plan", name := "<init>", desc := "()V" } : Jvm.MethodName) prog_5_method_1_code (1 : Nat) (Option.none : Option Jvm.ClassFile.FieldType)) ∈ zWs := kw_of 152 (by decide +kernel) rfl
theorem kw_153 : (Jvm.Cond.methodLink "StarLess$Plan" (3 : Nat) ({ cls := "java/lang/Object", name := "<init>", desc := "()V" } : Jvm.MethodName)) ∈ zWs := kw_of 153 (by decide +kernel) rfl
theorem kw_154 : (Jvm.Cond.classLink "StarLess$Plan" (9 : Nat) "[[I") ∈ zWs := kw_of 154 (by decide +kernel) rfl
theorem kw_155 : (Jvm.Cond.fieldLink "StarLess$Plan" (11 : Nat) "StarLess$Plan" "least" "[[I") ∈ zWs := kw_of 155 (by decide +kernel) rfl
theorem kw_156 : (Jvm.Cond.fieldLink "StarLess$Plan" (16 : Nat) "StarLess$Plan" "doing" "[I") ∈ zWs := kw_of 156 (by decide +kernel) rfl
theorem kw_157 : (Jvm.Cond.fieldLinkNest "StarLess" (180 : Nat) "StarLess$Plan" "doing" "[I" "StarLess") ∈ zNs := kn_of 157 (by decide +kernel) rfl
theorem kw_158 : (Jvm.Cond.fieldLink "StarLess$Plan" (58 : Nat) "StarLess$Plan" "won" "I") ∈ zWs := kw_of 158 (by decide +kernel) rfl
theorem kw_159 : (Jvm.Cond.fieldLinkNest "StarLess" (177 : Nat) "StarLess$Plan" "won" "I" "StarLess") ∈ zNs := kn_of 159 (by decide +kernel) rfl
theorem kw_167 : (Jvm.Cond.classLink "StarLess" (46 : Nat) "StarLess$Log") ∈ zWs := kw_of 167 (by decide +kernel) rfl
theorem kw_168 : (Jvm.Cond.instantiable "StarLess$Log" (4 : Nat)) ∈ zWs := kw_of 168 (by decide +kernel) rfl
theorem kw_169 : (Jvm.Cond.methodLinkNest "StarLess" (48 : Nat) ({ cls := "StarLess$Log", name := "<init>", desc := "()V" } : Jvm.MethodName) "StarLess") ∈ zNs := kn_of 169 (by decide +kernel) rfl
theorem kw_170 : (Jvm.Cond.instanceMethod ({ cls := "StarLess$Log", name := "<init>", desc := "()V" } : Jvm.MethodName)) ∈ zWs := kw_of 170 (by decide +kernel) rfl
theorem kw_171 : (Jvm.Cond.code ({ cls := "StarLess$Log", name := "<init>", desc := "()V" } : Jvm.MethodName) prog_3_method_1_code (1 : Nat) (Option.none : Option Jvm.ClassFile.FieldType)) ∈ zWs := kw_of 171 (by decide +kernel) rfl
theorem kw_172 : (Jvm.Cond.methodLink "StarLess$Log" (3 : Nat) ({ cls := "java/lang/Object", name := "<init>", desc := "()V" } : Jvm.MethodName)) ∈ zWs := kw_of 172 (by decide +kernel) rfl
theorem kw_173 : (Jvm.Cond.fieldLink "StarLess$Log" (9 : Nat) "StarLess$Log" "guest" "[I") ∈ zWs := kw_of 173 (by decide +kernel) rfl
theorem kw_174 : (Jvm.Cond.fieldLink "StarLess$Log" (15 : Nat) "StarLess$Log" "doing" "[I") ∈ zWs := kw_of 174 (by decide +kernel) rfl
theorem kw_175 : (Jvm.Cond.fieldLink "StarLess$Log" (18 : Nat) "StarLess$Log" "lost" "[Z") ∈ zWs := kw_of 175 (by decide +kernel) rfl
theorem kw_176 : (Jvm.Cond.fieldLink "StarLess$Log" (22 : Nat) "StarLess$Log" "size" "I") ∈ zWs := kw_of 176 (by decide +kernel) rfl
theorem kw_177 : (Jvm.Cond.fieldLinkNest "StarLess" (97 : Nat) "StarLess$Log" "size" "I" "StarLess") ∈ zNs := kn_of 177 (by decide +kernel) rfl
theorem kw_187 : (Jvm.Cond.fieldLink "StarLess" (12 : Nat) "StarLess" "house" "LStarLess$House;") ∈ zWs := kw_of 187 (by decide +kernel) rfl
theorem kw_188 : (Jvm.Cond.fieldLink "StarLess" (21 : Nat) "StarLess" "sheets" "LStarLess$Sheets;") ∈ zWs := kw_of 188 (by decide +kernel) rfl
theorem kw_189 : (Jvm.Cond.fieldLink "StarLess" (28 : Nat) "StarLess" "text" "LStarLess$Text;") ∈ zWs := kw_of 189 (by decide +kernel) rfl
theorem kw_190 : (Jvm.Cond.fieldLink "StarLess" (35 : Nat) "StarLess" "outcome" "LStarLess$Outcome;") ∈ zWs := kw_of 190 (by decide +kernel) rfl
theorem kw_191 : (Jvm.Cond.fieldLink "StarLess" (42 : Nat) "StarLess" "plan" "LStarLess$Plan;") ∈ zWs := kw_of 191 (by decide +kernel) rfl
theorem kw_192 : (Jvm.Cond.fieldLink "StarLess" (49 : Nat) "StarLess" "log" "LStarLess$Log;") ∈ zWs := kw_of 192 (by decide +kernel) rfl
theorem kw_193 : (Jvm.Cond.fieldLink "StarLess" (236 : Nat) "StarLess" "traced" "I") ∈ zWs := kw_of 193 (by decide +kernel) rfl
theorem kw_194 : (Jvm.Cond.fieldLink "StarLess" (53 : Nat) "StarLess" "latestFault" "I") ∈ zWs := kw_of 194 (by decide +kernel) rfl
theorem kw_212 : (Jvm.Cond.methodLink "StarLessLaw" (13 : Nat) ({ cls := "StarLess", name := "hotel", desc := "(IIII)I" } : Jvm.MethodName)) ∈ zWs := kw_of 212 (by decide +kernel) rfl
theorem kw_213 : (Jvm.Cond.instanceMethod ({ cls := "StarLess", name := "hotel", desc := "(IIII)I" } : Jvm.MethodName)) ∈ zWs := kw_of 213 (by decide +kernel) rfl
theorem kw_214 : (Jvm.Cond.selects "StarLess" ({ cls := "StarLess", name := "hotel", desc := "(IIII)I" } : Jvm.MethodName) ({ cls := "StarLess", name := "hotel", desc := "(IIII)I" } : Jvm.MethodName)) ∈ zWs := kw_of 214 (by decide +kernel) rfl
theorem kw_215 : (Jvm.Cond.code ({ cls := "StarLess", name := "hotel", desc := "(IIII)I" } : Jvm.MethodName) prog_1_method_2_code (7 : Nat) (Option.some Jvm.ClassFile.FieldType.int)) ∈ zWs := kw_of 215 (by decide +kernel) rfl
theorem kw_216 : (Jvm.Cond.methodLinkNest "StarLess" (57 : Nat) ({ cls := "StarLess$Sheets", name := "isSheet", desc := "(I)Z" } : Jvm.MethodName) "StarLess") ∈ zNs := kn_of 216 (by decide +kernel) rfl
theorem kw_218 : (Jvm.Cond.instanceMethod ({ cls := "StarLess$Sheets", name := "isSheet", desc := "(I)Z" } : Jvm.MethodName)) ∈ zWs := kw_of 218 (by decide +kernel) rfl
theorem kw_219 : (Jvm.Cond.code ({ cls := "StarLess$Sheets", name := "isSheet", desc := "(I)Z" } : Jvm.MethodName) prog_6_method_2_code (2 : Nat) (Option.some Jvm.ClassFile.FieldType.boolean)) ∈ zWs := kw_of 219 (by decide +kernel) rfl
theorem kw_220 : (Jvm.Cond.methodLink "StarLess" (61 : Nat) ({ cls := "StarLess", name := "isLane", desc := "(I)Z" } : Jvm.MethodName)) ∈ zWs := kw_of 220 (by decide +kernel) rfl
theorem kw_221 : (Jvm.Cond.static ({ cls := "StarLess", name := "isLane", desc := "(I)Z" } : Jvm.MethodName)) ∈ zWs := kw_of 221 (by decide +kernel) rfl
theorem kw_222 : (Jvm.Cond.code ({ cls := "StarLess", name := "isLane", desc := "(I)Z" } : Jvm.MethodName) prog_1_method_31_code (1 : Nat) (Option.some Jvm.ClassFile.FieldType.boolean)) ∈ zWs := kw_of 222 (by decide +kernel) rfl
theorem kw_223 : (Jvm.Cond.methodLinkNest "StarLess" (64 : Nat) ({ cls := "StarLess$Sheets", name := "faultAsRow", desc := "(II)I" } : Jvm.MethodName) "StarLess") ∈ zNs := kn_of 223 (by decide +kernel) rfl
theorem kw_225 : (Jvm.Cond.instanceMethod ({ cls := "StarLess$Sheets", name := "faultAsRow", desc := "(II)I" } : Jvm.MethodName)) ∈ zWs := kw_of 225 (by decide +kernel) rfl
theorem kw_226 : (Jvm.Cond.code ({ cls := "StarLess$Sheets", name := "faultAsRow", desc := "(II)I" } : Jvm.MethodName) prog_6_method_5_code (3 : Nat) (Option.some Jvm.ClassFile.FieldType.int)) ∈ zWs := kw_of 226 (by decide +kernel) rfl
theorem kw_227 : (Jvm.Cond.methodLink "StarLess" (68 : Nat) ({ cls := "StarLess", name := "faulty", desc := "(I)I" } : Jvm.MethodName)) ∈ zWs := kw_of 227 (by decide +kernel) rfl
theorem kw_229 : (Jvm.Cond.instanceMethod ({ cls := "StarLess", name := "faulty", desc := "(I)I" } : Jvm.MethodName)) ∈ zWs := kw_of 229 (by decide +kernel) rfl
theorem kw_230 : (Jvm.Cond.code ({ cls := "StarLess", name := "faulty", desc := "(I)I" } : Jvm.MethodName) prog_1_method_37_code (2 : Nat) (Option.some Jvm.ClassFile.FieldType.int)) ∈ zWs := kw_of 230 (by decide +kernel) rfl
theorem kw_231 : (Jvm.Cond.methodLinkNest "StarLess" (72 : Nat) ({ cls := "StarLess$Sheets", name := "spans", desc := "(III)Z" } : Jvm.MethodName) "StarLess") ∈ zNs := kn_of 231 (by decide +kernel) rfl
theorem kw_233 : (Jvm.Cond.instanceMethod ({ cls := "StarLess$Sheets", name := "spans", desc := "(III)Z" } : Jvm.MethodName)) ∈ zWs := kw_of 233 (by decide +kernel) rfl
theorem kw_234 : (Jvm.Cond.code ({ cls := "StarLess$Sheets", name := "spans", desc := "(III)Z" } : Jvm.MethodName) prog_6_method_4_code (4 : Nat) (Option.some Jvm.ClassFile.FieldType.boolean)) ∈ zWs := kw_of 234 (by decide +kernel) rfl
theorem kw_235 : (Jvm.Cond.methodLinkNest "StarLess" (80 : Nat) ({ cls := "StarLess$Text", name := "isOne", desc := "([III)Z" } : Jvm.MethodName) "StarLess") ∈ zNs := kn_of 235 (by decide +kernel) rfl
theorem kw_237 : (Jvm.Cond.instanceMethod ({ cls := "StarLess$Text", name := "isOne", desc := "([III)Z" } : Jvm.MethodName)) ∈ zWs := kw_of 237 (by decide +kernel) rfl
theorem kw_238 : (Jvm.Cond.code ({ cls := "StarLess$Text", name := "isOne", desc := "([III)Z" } : Jvm.MethodName) prog_7_method_2_code (5 : Nat) (Option.some Jvm.ClassFile.FieldType.boolean)) ∈ zWs := kw_of 238 (by decide +kernel) rfl
theorem kw_239 : (Jvm.Cond.methodLink "StarLess$Text" (25 : Nat) ({ cls := "StarLess$Text", name := "next", desc := "(II)Z" } : Jvm.MethodName)) ∈ zWs := kw_of 239 (by decide +kernel) rfl
theorem kw_241 : (Jvm.Cond.instanceMethod ({ cls := "StarLess$Text", name := "next", desc := "(II)Z" } : Jvm.MethodName)) ∈ zWs := kw_of 241 (by decide +kernel) rfl
theorem kw_242 : (Jvm.Cond.code ({ cls := "StarLess$Text", name := "next", desc := "(II)Z" } : Jvm.MethodName) prog_7_method_6_code (4 : Nat) (Option.some Jvm.ClassFile.FieldType.boolean)) ∈ zWs := kw_of 242 (by decide +kernel) rfl
theorem kw_243 : (Jvm.Cond.methodLink "StarLess$Text" (29 : Nat) ({ cls := "StarLess$Text", name := "areDoings", desc := "()Z" } : Jvm.MethodName)) ∈ zWs := kw_of 243 (by decide +kernel) rfl
theorem kw_245 : (Jvm.Cond.instanceMethod ({ cls := "StarLess$Text", name := "areDoings", desc := "()Z" } : Jvm.MethodName)) ∈ zWs := kw_of 245 (by decide +kernel) rfl
theorem kw_246 : (Jvm.Cond.code ({ cls := "StarLess$Text", name := "areDoings", desc := "()Z" } : Jvm.MethodName) prog_7_method_3_code (1 : Nat) (Option.some Jvm.ClassFile.FieldType.boolean)) ∈ zWs := kw_of 246 (by decide +kernel) rfl
theorem kw_247 : (Jvm.Cond.methodLink "StarLess$Text" (33 : Nat) ({ cls := "StarLess$Text", name := "areGuests", desc := "()Z" } : Jvm.MethodName)) ∈ zWs := kw_of 247 (by decide +kernel) rfl
theorem kw_249 : (Jvm.Cond.instanceMethod ({ cls := "StarLess$Text", name := "areGuests", desc := "()Z" } : Jvm.MethodName)) ∈ zWs := kw_of 249 (by decide +kernel) rfl
theorem kw_250 : (Jvm.Cond.code ({ cls := "StarLess$Text", name := "areGuests", desc := "()Z" } : Jvm.MethodName) prog_7_method_4_code (1 : Nat) (Option.some Jvm.ClassFile.FieldType.boolean)) ∈ zWs := kw_of 250 (by decide +kernel) rfl
theorem kw_251 : (Jvm.Cond.methodLink "StarLess$Text" (42 : Nat) ({ cls := "StarLess$Text", name := "isLetter", desc := "()Z" } : Jvm.MethodName)) ∈ zWs := kw_of 251 (by decide +kernel) rfl
theorem kw_253 : (Jvm.Cond.instanceMethod ({ cls := "StarLess$Text", name := "isLetter", desc := "()Z" } : Jvm.MethodName)) ∈ zWs := kw_of 253 (by decide +kernel) rfl
theorem kw_254 : (Jvm.Cond.code ({ cls := "StarLess$Text", name := "isLetter", desc := "()Z" } : Jvm.MethodName) prog_7_method_5_code (1 : Nat) (Option.some Jvm.ClassFile.FieldType.boolean)) ∈ zWs := kw_of 254 (by decide +kernel) rfl
theorem kw_255 : (Jvm.Cond.methodLinkNest "StarLess" (93 : Nat) ({ cls := "StarLess$House", name := "open", desc := "([IIII)V" } : Jvm.MethodName) "StarLess") ∈ zNs := kn_of 255 (by decide +kernel) rfl
theorem kw_257 : (Jvm.Cond.instanceMethod ({ cls := "StarLess$House", name := "open", desc := "([IIII)V" } : Jvm.MethodName)) ∈ zWs := kw_of 257 (by decide +kernel) rfl
theorem kw_258 : (Jvm.Cond.code ({ cls := "StarLess$House", name := "open", desc := "([IIII)V" } : Jvm.MethodName) prog_2_method_5_code (7 : Nat) (Option.none : Option Jvm.ClassFile.FieldType)) ∈ zWs := kw_of 258 (by decide +kernel) rfl
theorem kw_259 : (Jvm.Cond.methodLink "StarLess$House" (40 : Nat) ({ cls := "StarLess$House", name := "kindOf", desc := "(I)I" } : Jvm.MethodName)) ∈ zWs := kw_of 259 (by decide +kernel) rfl
theorem kw_260 : (Jvm.Cond.static ({ cls := "StarLess$House", name := "kindOf", desc := "(I)I" } : Jvm.MethodName)) ∈ zWs := kw_of 260 (by decide +kernel) rfl
theorem kw_261 : (Jvm.Cond.code ({ cls := "StarLess$House", name := "kindOf", desc := "(I)I" } : Jvm.MethodName) prog_2_method_6_code (1 : Nat) (Option.some Jvm.ClassFile.FieldType.int)) ∈ zWs := kw_of 261 (by decide +kernel) rfl
theorem kw_262 : (Jvm.Cond.methodLink "StarLessLaw" (18 : Nat) ({ cls := "StarLess", name := "ofGuest", desc := "(II)I" } : Jvm.MethodName)) ∈ zWs := kw_of 262 (by decide +kernel) rfl
theorem kw_263 : (Jvm.Cond.instanceMethod ({ cls := "StarLess", name := "ofGuest", desc := "(II)I" } : Jvm.MethodName)) ∈ zWs := kw_of 263 (by decide +kernel) rfl
theorem kw_264 : (Jvm.Cond.selects "StarLess" ({ cls := "StarLess", name := "ofGuest", desc := "(II)I" } : Jvm.MethodName) ({ cls := "StarLess", name := "ofGuest", desc := "(II)I" } : Jvm.MethodName)) ∈ zWs := kw_of 264 (by decide +kernel) rfl
theorem kw_265 : (Jvm.Cond.code ({ cls := "StarLess", name := "ofGuest", desc := "(II)I" } : Jvm.MethodName) prog_1_method_3_code (3 : Nat) (Option.some Jvm.ClassFile.FieldType.int)) ∈ zWs := kw_of 265 (by decide +kernel) rfl
theorem kw_266 : (Jvm.Cond.methodLinkNest "StarLess" (101 : Nat) ({ cls := "StarLess$House", name := "isGuest", desc := "(I)Z" } : Jvm.MethodName) "StarLess") ∈ zNs := kn_of 266 (by decide +kernel) rfl
theorem kw_268 : (Jvm.Cond.instanceMethod ({ cls := "StarLess$House", name := "isGuest", desc := "(I)Z" } : Jvm.MethodName)) ∈ zWs := kw_of 268 (by decide +kernel) rfl
theorem kw_269 : (Jvm.Cond.code ({ cls := "StarLess$House", name := "isGuest", desc := "(I)Z" } : Jvm.MethodName) prog_2_method_3_code (2 : Nat) (Option.some Jvm.ClassFile.FieldType.boolean)) ∈ zWs := kw_of 269 (by decide +kernel) rfl
theorem kw_270 : (Jvm.Cond.methodLink "StarLessLaw" (23 : Nat) ({ cls := "StarLess", name := "ofDoing", desc := "(II)I" } : Jvm.MethodName)) ∈ zWs := kw_of 270 (by decide +kernel) rfl
theorem kw_271 : (Jvm.Cond.instanceMethod ({ cls := "StarLess", name := "ofDoing", desc := "(II)I" } : Jvm.MethodName)) ∈ zWs := kw_of 271 (by decide +kernel) rfl
theorem kw_272 : (Jvm.Cond.selects "StarLess" ({ cls := "StarLess", name := "ofDoing", desc := "(II)I" } : Jvm.MethodName) ({ cls := "StarLess", name := "ofDoing", desc := "(II)I" } : Jvm.MethodName)) ∈ zWs := kw_of 272 (by decide +kernel) rfl
theorem kw_273 : (Jvm.Cond.code ({ cls := "StarLess", name := "ofDoing", desc := "(II)I" } : Jvm.MethodName) prog_1_method_4_code (3 : Nat) (Option.some Jvm.ClassFile.FieldType.int)) ∈ zWs := kw_of 273 (by decide +kernel) rfl
theorem kw_274 : (Jvm.Cond.methodLinkNest "StarLess" (114 : Nat) ({ cls := "StarLess$House", name := "isDoing", desc := "(I)Z" } : Jvm.MethodName) "StarLess") ∈ zNs := kn_of 274 (by decide +kernel) rfl
theorem kw_276 : (Jvm.Cond.instanceMethod ({ cls := "StarLess$House", name := "isDoing", desc := "(I)Z" } : Jvm.MethodName)) ∈ zWs := kw_of 276 (by decide +kernel) rfl
theorem kw_277 : (Jvm.Cond.code ({ cls := "StarLess$House", name := "isDoing", desc := "(I)Z" } : Jvm.MethodName) prog_2_method_4_code (2 : Nat) (Option.some Jvm.ClassFile.FieldType.boolean)) ∈ zWs := kw_of 277 (by decide +kernel) rfl
theorem kw_278 : (Jvm.Cond.methodLinkNest "StarLess" (123 : Nat) ({ cls := "StarLess$House", name := "wonBy", desc := "(I)I" } : Jvm.MethodName) "StarLess") ∈ zNs := kn_of 278 (by decide +kernel) rfl
theorem kw_280 : (Jvm.Cond.instanceMethod ({ cls := "StarLess$House", name := "wonBy", desc := "(I)I" } : Jvm.MethodName)) ∈ zWs := kw_of 280 (by decide +kernel) rfl
theorem kw_281 : (Jvm.Cond.code ({ cls := "StarLess$House", name := "wonBy", desc := "(I)I" } : Jvm.MethodName) prog_2_method_9_code (4 : Nat) (Option.some Jvm.ClassFile.FieldType.int)) ∈ zWs := kw_of 281 (by decide +kernel) rfl
theorem kw_282 : (Jvm.Cond.methodLink "StarLess$House" (48 : Nat) ({ cls := "StarLess$House", name := "isWon", desc := "(II)Z" } : Jvm.MethodName)) ∈ zWs := kw_of 282 (by decide +kernel) rfl
theorem kw_284 : (Jvm.Cond.instanceMethod ({ cls := "StarLess$House", name := "isWon", desc := "(II)Z" } : Jvm.MethodName)) ∈ zWs := kw_of 284 (by decide +kernel) rfl
theorem kw_285 : (Jvm.Cond.code ({ cls := "StarLess$House", name := "isWon", desc := "(II)Z" } : Jvm.MethodName) prog_2_method_8_code (3 : Nat) (Option.some Jvm.ClassFile.FieldType.boolean)) ∈ zWs := kw_of 285 (by decide +kernel) rfl
theorem kw_286 : (Jvm.Cond.methodLink "StarLess$House" (44 : Nat) ({ cls := "StarLess$House", name := "pleasure", desc := "(II)I" } : Jvm.MethodName)) ∈ zWs := kw_of 286 (by decide +kernel) rfl
theorem kw_288 : (Jvm.Cond.instanceMethod ({ cls := "StarLess$House", name := "pleasure", desc := "(II)I" } : Jvm.MethodName)) ∈ zWs := kw_of 288 (by decide +kernel) rfl
theorem kw_289 : (Jvm.Cond.code ({ cls := "StarLess$House", name := "pleasure", desc := "(II)I" } : Jvm.MethodName) prog_2_method_7_code (5 : Nat) (Option.some Jvm.ClassFile.FieldType.int)) ∈ zWs := kw_of 289 (by decide +kernel) rfl
theorem kw_290 : (Jvm.Cond.methodLink "StarLessLaw" (27 : Nat) ({ cls := "StarLess", name := "strict", desc := "(I)I" } : Jvm.MethodName)) ∈ zWs := kw_of 290 (by decide +kernel) rfl
theorem kw_291 : (Jvm.Cond.instanceMethod ({ cls := "StarLess", name := "strict", desc := "(I)I" } : Jvm.MethodName)) ∈ zWs := kw_of 291 (by decide +kernel) rfl
theorem kw_292 : (Jvm.Cond.selects "StarLess" ({ cls := "StarLess", name := "strict", desc := "(I)I" } : Jvm.MethodName) ({ cls := "StarLess", name := "strict", desc := "(I)I" } : Jvm.MethodName)) ∈ zWs := kw_of 292 (by decide +kernel) rfl
theorem kw_293 : (Jvm.Cond.code ({ cls := "StarLess", name := "strict", desc := "(I)I" } : Jvm.MethodName) prog_1_method_5_code (3 : Nat) (Option.some Jvm.ClassFile.FieldType.int)) ∈ zWs := kw_of 293 (by decide +kernel) rfl
theorem kw_294 : (Jvm.Cond.methodLinkNest "StarLess" (126 : Nat) ({ cls := "StarLess$House", name := "isOpen", desc := "()Z" } : Jvm.MethodName) "StarLess") ∈ zNs := kn_of 294 (by decide +kernel) rfl
theorem kw_296 : (Jvm.Cond.instanceMethod ({ cls := "StarLess$House", name := "isOpen", desc := "()Z" } : Jvm.MethodName)) ∈ zWs := kw_of 296 (by decide +kernel) rfl
theorem kw_297 : (Jvm.Cond.code ({ cls := "StarLess$House", name := "isOpen", desc := "()Z" } : Jvm.MethodName) prog_2_method_2_code (1 : Nat) (Option.some Jvm.ClassFile.FieldType.boolean)) ∈ zWs := kw_of 297 (by decide +kernel) rfl
theorem kw_298 : (Jvm.Cond.methodLink "StarLessLaw" (32 : Nat) ({ cls := "StarLess", name := "stars", desc := "(I)I" } : Jvm.MethodName)) ∈ zWs := kw_of 298 (by decide +kernel) rfl
theorem kw_299 : (Jvm.Cond.instanceMethod ({ cls := "StarLess", name := "stars", desc := "(I)I" } : Jvm.MethodName)) ∈ zWs := kw_of 299 (by decide +kernel) rfl
theorem kw_300 : (Jvm.Cond.selects "StarLess" ({ cls := "StarLess", name := "stars", desc := "(I)I" } : Jvm.MethodName) ({ cls := "StarLess", name := "stars", desc := "(I)I" } : Jvm.MethodName)) ∈ zWs := kw_of 300 (by decide +kernel) rfl
theorem kw_301 : (Jvm.Cond.code ({ cls := "StarLess", name := "stars", desc := "(I)I" } : Jvm.MethodName) prog_1_method_6_code (3 : Nat) (Option.some Jvm.ClassFile.FieldType.int)) ∈ zWs := kw_of 301 (by decide +kernel) rfl
theorem kw_302 : (Jvm.Cond.methodLink "StarLess" (133 : Nat) ({ cls := "StarLess", name := "isStars", desc := "(I)Z" } : Jvm.MethodName)) ∈ zWs := kw_of 302 (by decide +kernel) rfl
theorem kw_303 : (Jvm.Cond.static ({ cls := "StarLess", name := "isStars", desc := "(I)Z" } : Jvm.MethodName)) ∈ zWs := kw_of 303 (by decide +kernel) rfl
theorem kw_304 : (Jvm.Cond.code ({ cls := "StarLess", name := "isStars", desc := "(I)Z" } : Jvm.MethodName) prog_1_method_33_code (1 : Nat) (Option.some Jvm.ClassFile.FieldType.boolean)) ∈ zWs := kw_of 304 (by decide +kernel) rfl
theorem kw_305 : (Jvm.Cond.methodLink "StarLessLaw" (36 : Nat) ({ cls := "StarLess", name := "pleased", desc := "(II)I" } : Jvm.MethodName)) ∈ zWs := kw_of 305 (by decide +kernel) rfl
theorem kw_306 : (Jvm.Cond.instanceMethod ({ cls := "StarLess", name := "pleased", desc := "(II)I" } : Jvm.MethodName)) ∈ zWs := kw_of 306 (by decide +kernel) rfl
theorem kw_307 : (Jvm.Cond.selects "StarLess" ({ cls := "StarLess", name := "pleased", desc := "(II)I" } : Jvm.MethodName) ({ cls := "StarLess", name := "pleased", desc := "(II)I" } : Jvm.MethodName)) ∈ zWs := kw_of 307 (by decide +kernel) rfl
theorem kw_308 : (Jvm.Cond.code ({ cls := "StarLess", name := "pleased", desc := "(II)I" } : Jvm.MethodName) prog_1_method_7_code (3 : Nat) (Option.some Jvm.ClassFile.FieldType.int)) ∈ zWs := kw_of 308 (by decide +kernel) rfl
theorem kw_309 : (Jvm.Cond.methodLinkNest "StarLess" (139 : Nat) ({ cls := "StarLess$House", name := "pleasure", desc := "(II)I" } : Jvm.MethodName) "StarLess") ∈ zNs := kn_of 309 (by decide +kernel) rfl
theorem kw_310 : (Jvm.Cond.methodLink "StarLessLaw" (40 : Nat) ({ cls := "StarLess", name := "season", desc := "(IIIIII)I" } : Jvm.MethodName)) ∈ zWs := kw_of 310 (by decide +kernel) rfl
theorem kw_311 : (Jvm.Cond.instanceMethod ({ cls := "StarLess", name := "season", desc := "(IIIIII)I" } : Jvm.MethodName)) ∈ zWs := kw_of 311 (by decide +kernel) rfl
theorem kw_312 : (Jvm.Cond.selects "StarLess" ({ cls := "StarLess", name := "season", desc := "(IIIIII)I" } : Jvm.MethodName) ({ cls := "StarLess", name := "season", desc := "(IIIIII)I" } : Jvm.MethodName)) ∈ zWs := kw_of 312 (by decide +kernel) rfl
theorem kw_313 : (Jvm.Cond.code ({ cls := "StarLess", name := "season", desc := "(IIIIII)I" } : Jvm.MethodName) prog_1_method_8_code (8 : Nat) (Option.some Jvm.ClassFile.FieldType.int)) ∈ zWs := kw_of 313 (by decide +kernel) rfl
theorem kw_314 : (Jvm.Cond.methodLink "StarLess" (142 : Nat) ({ cls := "StarLess", name := "isPairs", desc := "(I)Z" } : Jvm.MethodName)) ∈ zWs := kw_of 314 (by decide +kernel) rfl
theorem kw_315 : (Jvm.Cond.static ({ cls := "StarLess", name := "isPairs", desc := "(I)Z" } : Jvm.MethodName)) ∈ zWs := kw_of 315 (by decide +kernel) rfl
theorem kw_316 : (Jvm.Cond.code ({ cls := "StarLess", name := "isPairs", desc := "(I)Z" } : Jvm.MethodName) prog_1_method_32_code (1 : Nat) (Option.some Jvm.ClassFile.FieldType.boolean)) ∈ zWs := kw_of 316 (by decide +kernel) rfl
theorem kw_317 : (Jvm.Cond.methodLink "StarLess" (145 : Nat) ({ cls := "StarLess", name := "refusedPairs", desc := "(IIII)I" } : Jvm.MethodName)) ∈ zWs := kw_of 317 (by decide +kernel) rfl
theorem kw_319 : (Jvm.Cond.instanceMethod ({ cls := "StarLess", name := "refusedPairs", desc := "(IIII)I" } : Jvm.MethodName)) ∈ zWs := kw_of 319 (by decide +kernel) rfl
theorem kw_320 : (Jvm.Cond.code ({ cls := "StarLess", name := "refusedPairs", desc := "(IIII)I" } : Jvm.MethodName) prog_1_method_39_code (8 : Nat) (Option.some Jvm.ClassFile.FieldType.int)) ∈ zWs := kw_of 320 (by decide +kernel) rfl
theorem kw_321 : (Jvm.Cond.methodLinkNest "StarLess" (149 : Nat) ({ cls := "StarLess$Outcome", name := "live", desc := "(LStarLess$House;[IIII)V" } : Jvm.MethodName) "StarLess") ∈ zNs := kn_of 321 (by decide +kernel) rfl
theorem kw_323 : (Jvm.Cond.instanceMethod ({ cls := "StarLess$Outcome", name := "live", desc := "(LStarLess$House;[IIII)V" } : Jvm.MethodName)) ∈ zWs := kw_of 323 (by decide +kernel) rfl
theorem kw_324 : (Jvm.Cond.code ({ cls := "StarLess$Outcome", name := "live", desc := "(LStarLess$House;[IIII)V" } : Jvm.MethodName) prog_4_method_2_code (9 : Nat) (Option.none : Option Jvm.ClassFile.FieldType)) ∈ zWs := kw_of 324 (by decide +kernel) rfl
theorem kw_325 : (Jvm.Cond.methodLink "StarLess$Outcome" (34 : Nat) ({ cls := "StarLess$Outcome", name := "pay", desc := "(LStarLess$House;IIIZ)V" } : Jvm.MethodName)) ∈ zWs := kw_of 325 (by decide +kernel) rfl
theorem kw_327 : (Jvm.Cond.instanceMethod ({ cls := "StarLess$Outcome", name := "pay", desc := "(LStarLess$House;IIIZ)V" } : Jvm.MethodName)) ∈ zWs := kw_of 327 (by decide +kernel) rfl
theorem kw_328 : (Jvm.Cond.code ({ cls := "StarLess$Outcome", name := "pay", desc := "(LStarLess$House;IIIZ)V" } : Jvm.MethodName) prog_4_method_3_code (6 : Nat) (Option.none : Option Jvm.ClassFile.FieldType)) ∈ zWs := kw_of 328 (by decide +kernel) rfl
theorem kw_329 : (Jvm.Cond.methodLinkNest "StarLess$Outcome" (38 : Nat) ({ cls := "StarLess$House", name := "pleasure", desc := "(II)I" } : Jvm.MethodName) "StarLess") ∈ zNs := kn_of 329 (by decide +kernel) rfl
theorem kw_330 : (Jvm.Cond.methodLinkNest "StarLess$Outcome" (41 : Nat) ({ cls := "StarLess$House", name := "isWon", desc := "(II)Z" } : Jvm.MethodName) "StarLess") ∈ zNs := kn_of 330 (by decide +kernel) rfl
theorem kw_331 : (Jvm.Cond.methodLink "StarLessLaw" (45 : Nat) ({ cls := "StarLess", name := "may", desc := "(IIIII)I" } : Jvm.MethodName)) ∈ zWs := kw_of 331 (by decide +kernel) rfl
theorem kw_332 : (Jvm.Cond.instanceMethod ({ cls := "StarLess", name := "may", desc := "(IIIII)I" } : Jvm.MethodName)) ∈ zWs := kw_of 332 (by decide +kernel) rfl
theorem kw_333 : (Jvm.Cond.selects "StarLess" ({ cls := "StarLess", name := "may", desc := "(IIIII)I" } : Jvm.MethodName) ({ cls := "StarLess", name := "may", desc := "(IIIII)I" } : Jvm.MethodName)) ∈ zWs := kw_of 333 (by decide +kernel) rfl
theorem kw_334 : (Jvm.Cond.code ({ cls := "StarLess", name := "may", desc := "(IIIII)I" } : Jvm.MethodName) prog_1_method_9_code (10 : Nat) (Option.some Jvm.ClassFile.FieldType.int)) ∈ zWs := kw_of 334 (by decide +kernel) rfl
theorem kw_335 : (Jvm.Cond.methodLink "StarLess" (165 : Nat) ({ cls := "StarLess", name := "refusedSeason", desc := "(IIIII)I" } : Jvm.MethodName)) ∈ zWs := kw_of 335 (by decide +kernel) rfl
theorem kw_337 : (Jvm.Cond.instanceMethod ({ cls := "StarLess", name := "refusedSeason", desc := "(IIIII)I" } : Jvm.MethodName)) ∈ zWs := kw_of 337 (by decide +kernel) rfl
theorem kw_338 : (Jvm.Cond.code ({ cls := "StarLess", name := "refusedSeason", desc := "(IIIII)I" } : Jvm.MethodName) prog_1_method_38_code (6 : Nat) (Option.some Jvm.ClassFile.FieldType.int)) ∈ zWs := kw_of 338 (by decide +kernel) rfl
theorem kw_339 : (Jvm.Cond.methodLink "StarLessLaw" (50 : Nat) ({ cls := "StarLess", name := "ask", desc := "(I)I" } : Jvm.MethodName)) ∈ zWs := kw_of 339 (by decide +kernel) rfl
theorem kw_340 : (Jvm.Cond.instanceMethod ({ cls := "StarLess", name := "ask", desc := "(I)I" } : Jvm.MethodName)) ∈ zWs := kw_of 340 (by decide +kernel) rfl
theorem kw_341 : (Jvm.Cond.selects "StarLess" ({ cls := "StarLess", name := "ask", desc := "(I)I" } : Jvm.MethodName) ({ cls := "StarLess", name := "ask", desc := "(I)I" } : Jvm.MethodName)) ∈ zWs := kw_of 341 (by decide +kernel) rfl
theorem kw_342 : (Jvm.Cond.code ({ cls := "StarLess", name := "ask", desc := "(I)I" } : Jvm.MethodName) prog_1_method_10_code (6 : Nat) (Option.some Jvm.ClassFile.FieldType.int)) ∈ zWs := kw_of 342 (by decide +kernel) rfl
theorem kw_343 : (Jvm.Cond.methodLink "StarLess" (170 : Nat) ({ cls := "StarLess", name := "firstOf", desc := "(I)I" } : Jvm.MethodName)) ∈ zWs := kw_of 343 (by decide +kernel) rfl
theorem kw_344 : (Jvm.Cond.static ({ cls := "StarLess", name := "firstOf", desc := "(I)I" } : Jvm.MethodName)) ∈ zWs := kw_of 344 (by decide +kernel) rfl
theorem kw_345 : (Jvm.Cond.code ({ cls := "StarLess", name := "firstOf", desc := "(I)I" } : Jvm.MethodName) prog_1_method_34_code (2 : Nat) (Option.some Jvm.ClassFile.FieldType.int)) ∈ zWs := kw_of 345 (by decide +kernel) rfl
theorem kw_346 : (Jvm.Cond.methodLink "StarLessLaw" (54 : Nat) ({ cls := "StarLess", name := "dull", desc := "(I)I" } : Jvm.MethodName)) ∈ zWs := kw_of 346 (by decide +kernel) rfl
theorem kw_347 : (Jvm.Cond.instanceMethod ({ cls := "StarLess", name := "dull", desc := "(I)I" } : Jvm.MethodName)) ∈ zWs := kw_of 347 (by decide +kernel) rfl
theorem kw_348 : (Jvm.Cond.selects "StarLess" ({ cls := "StarLess", name := "dull", desc := "(I)I" } : Jvm.MethodName) ({ cls := "StarLess", name := "dull", desc := "(I)I" } : Jvm.MethodName)) ∈ zWs := kw_of 348 (by decide +kernel) rfl
theorem kw_349 : (Jvm.Cond.code ({ cls := "StarLess", name := "dull", desc := "(I)I" } : Jvm.MethodName) prog_1_method_11_code (6 : Nat) (Option.some Jvm.ClassFile.FieldType.int)) ∈ zWs := kw_of 349 (by decide +kernel) rfl
theorem kw_350 : (Jvm.Cond.methodLink "StarLessLaw" (58 : Nat) ({ cls := "StarLess", name := "fewest", desc := "(I)I" } : Jvm.MethodName)) ∈ zWs := kw_of 350 (by decide +kernel) rfl
theorem kw_351 : (Jvm.Cond.instanceMethod ({ cls := "StarLess", name := "fewest", desc := "(I)I" } : Jvm.MethodName)) ∈ zWs := kw_of 351 (by decide +kernel) rfl
theorem kw_352 : (Jvm.Cond.selects "StarLess" ({ cls := "StarLess", name := "fewest", desc := "(I)I" } : Jvm.MethodName) ({ cls := "StarLess", name := "fewest", desc := "(I)I" } : Jvm.MethodName)) ∈ zWs := kw_of 352 (by decide +kernel) rfl
theorem kw_353 : (Jvm.Cond.code ({ cls := "StarLess", name := "fewest", desc := "(I)I" } : Jvm.MethodName) prog_1_method_12_code (2 : Nat) (Option.some Jvm.ClassFile.FieldType.int)) ∈ zWs := kw_of 353 (by decide +kernel) rfl
theorem kw_354 : (Jvm.Cond.methodLinkNest "StarLess" (173 : Nat) ({ cls := "StarLess$Plan", name := "isMade", desc := "(LStarLess$House;)Z" } : Jvm.MethodName) "StarLess") ∈ zNs := kn_of 354 (by decide +kernel) rfl
theorem kw_356 : (Jvm.Cond.instanceMethod ({ cls := "StarLess$Plan", name := "isMade", desc := "(LStarLess$House;)Z" } : Jvm.MethodName)) ∈ zWs := kw_of 356 (by decide +kernel) rfl
theorem kw_357 : (Jvm.Cond.code ({ cls := "StarLess$Plan", name := "isMade", desc := "(LStarLess$House;)Z" } : Jvm.MethodName) prog_5_method_2_code (4 : Nat) (Option.some Jvm.ClassFile.FieldType.boolean)) ∈ zWs := kw_of 357 (by decide +kernel) rfl
theorem kw_358 : (Jvm.Cond.methodLink "StarLess$Plan" (26 : Nat) ({ cls := "StarLess$Plan", name := "leastOf", desc := "(LStarLess$House;II)I" } : Jvm.MethodName)) ∈ zWs := kw_of 358 (by decide +kernel) rfl
theorem kw_360 : (Jvm.Cond.instanceMethod ({ cls := "StarLess$Plan", name := "leastOf", desc := "(LStarLess$House;II)I" } : Jvm.MethodName)) ∈ zWs := kw_of 360 (by decide +kernel) rfl
theorem kw_361 : (Jvm.Cond.code ({ cls := "StarLess$Plan", name := "leastOf", desc := "(LStarLess$House;II)I" } : Jvm.MethodName) prog_5_method_3_code (6 : Nat) (Option.some Jvm.ClassFile.FieldType.int)) ∈ zWs := kw_of 361 (by decide +kernel) rfl
theorem kw_362 : (Jvm.Cond.constant "StarLess$Plan" (30 : Nat) (1000000 : Int32)) ∈ zWs := kw_of 362 (by decide +kernel) rfl
theorem kw_363 : (Jvm.Cond.methodLink "StarLess$Plan" (38 : Nat) ({ cls := "StarLess$Plan", name := "weight", desc := "(LStarLess$House;III)I" } : Jvm.MethodName)) ∈ zWs := kw_of 363 (by decide +kernel) rfl
theorem kw_365 : (Jvm.Cond.instanceMethod ({ cls := "StarLess$Plan", name := "weight", desc := "(LStarLess$House;III)I" } : Jvm.MethodName)) ∈ zWs := kw_of 365 (by decide +kernel) rfl
theorem kw_366 : (Jvm.Cond.code ({ cls := "StarLess$Plan", name := "weight", desc := "(LStarLess$House;III)I" } : Jvm.MethodName) prog_5_method_4_code (7 : Nat) (Option.some Jvm.ClassFile.FieldType.int)) ∈ zWs := kw_of 366 (by decide +kernel) rfl
theorem kw_367 : (Jvm.Cond.methodLinkNest "StarLess$Plan" (51 : Nat) ({ cls := "StarLess$House", name := "isWon", desc := "(II)Z" } : Jvm.MethodName) "StarLess") ∈ zNs := kn_of 367 (by decide +kernel) rfl
theorem kw_368 : (Jvm.Cond.methodLinkNest "StarLess$Plan" (55 : Nat) ({ cls := "StarLess$House", name := "pleasure", desc := "(II)I" } : Jvm.MethodName) "StarLess") ∈ zNs := kn_of 368 (by decide +kernel) rfl
theorem kw_369 : (Jvm.Cond.methodLink "StarLess$Plan" (42 : Nat) ({ cls := "java/lang/Math", name := "min", desc := "(II)I" } : Jvm.MethodName)) ∈ zWs := kw_of 369 (by decide +kernel) rfl
theorem kw_370 : (Jvm.Cond.static ({ cls := "java/lang/Math", name := "min", desc := "(II)I" } : Jvm.MethodName)) ∈ zWs := kw_of 370 (by decide +kernel) rfl
theorem kw_371 : (Jvm.Cond.code ({ cls := "java/lang/Math", name := "min", desc := "(II)I" } : Jvm.MethodName) prog_10_method_69_code (2 : Nat) (Option.some Jvm.ClassFile.FieldType.int)) ∈ zWs := kw_of 371 (by decide +kernel) rfl
theorem kw_372 : (Jvm.Cond.methodLink "StarLess$Plan" (31 : Nat) ({ cls := "StarLess$Plan", name := "choose", desc := "(LStarLess$House;)V" } : Jvm.MethodName)) ∈ zWs := kw_of 372 (by decide +kernel) rfl
theorem kw_374 : (Jvm.Cond.instanceMethod ({ cls := "StarLess$Plan", name := "choose", desc := "(LStarLess$House;)V" } : Jvm.MethodName)) ∈ zWs := kw_of 374 (by decide +kernel) rfl
theorem kw_375 : (Jvm.Cond.code ({ cls := "StarLess$Plan", name := "choose", desc := "(LStarLess$House;)V" } : Jvm.MethodName) prog_5_method_5_code (5 : Nat) (Option.none : Option Jvm.ClassFile.FieldType)) ∈ zWs := kw_of 375 (by decide +kernel) rfl
theorem kw_376 : (Jvm.Cond.methodLink "StarLess$Plan" (61 : Nat) ({ cls := "StarLess$Plan", name := "firstBest", desc := "(LStarLess$House;II)I" } : Jvm.MethodName)) ∈ zWs := kw_of 376 (by decide +kernel) rfl
theorem kw_378 : (Jvm.Cond.instanceMethod ({ cls := "StarLess$Plan", name := "firstBest", desc := "(LStarLess$House;II)I" } : Jvm.MethodName)) ∈ zWs := kw_of 378 (by decide +kernel) rfl
theorem kw_379 : (Jvm.Cond.code ({ cls := "StarLess$Plan", name := "firstBest", desc := "(LStarLess$House;II)I" } : Jvm.MethodName) prog_5_method_6_code (5 : Nat) (Option.some Jvm.ClassFile.FieldType.int)) ∈ zWs := kw_of 379 (by decide +kernel) rfl
theorem kw_380 : (Jvm.Cond.methodLink "StarLessLaw" (62 : Nat) ({ cls := "StarLess", name := "reading", desc := "(IIZ)I" } : Jvm.MethodName)) ∈ zWs := kw_of 380 (by decide +kernel) rfl
theorem kw_381 : (Jvm.Cond.instanceMethod ({ cls := "StarLess", name := "reading", desc := "(IIZ)I" } : Jvm.MethodName)) ∈ zWs := kw_of 381 (by decide +kernel) rfl
theorem kw_382 : (Jvm.Cond.selects "StarLess" ({ cls := "StarLess", name := "reading", desc := "(IIZ)I" } : Jvm.MethodName) ({ cls := "StarLess", name := "reading", desc := "(IIZ)I" } : Jvm.MethodName)) ∈ zWs := kw_of 382 (by decide +kernel) rfl
theorem kw_383 : (Jvm.Cond.code ({ cls := "StarLess", name := "reading", desc := "(IIZ)I" } : Jvm.MethodName) prog_1_method_13_code (4 : Nat) (Option.some Jvm.ClassFile.FieldType.int)) ∈ zWs := kw_of 383 (by decide +kernel) rfl
theorem kw_384 : (Jvm.Cond.methodLinkNest "StarLess" (183 : Nat) ({ cls := "StarLess$Log", name := "add", desc := "(IIZ)I" } : Jvm.MethodName) "StarLess") ∈ zNs := kn_of 384 (by decide +kernel) rfl
theorem kw_386 : (Jvm.Cond.instanceMethod ({ cls := "StarLess$Log", name := "add", desc := "(IIZ)I" } : Jvm.MethodName)) ∈ zWs := kw_of 386 (by decide +kernel) rfl
theorem kw_387 : (Jvm.Cond.code ({ cls := "StarLess$Log", name := "add", desc := "(IIZ)I" } : Jvm.MethodName) prog_3_method_2_code (4 : Nat) (Option.some Jvm.ClassFile.FieldType.int)) ∈ zWs := kw_of 387 (by decide +kernel) rfl
theorem kw_388 : (Jvm.Cond.methodLink "StarLessLaw" (67 : Nat) ({ cls := "StarLess", name := "back", desc := "(I)I" } : Jvm.MethodName)) ∈ zWs := kw_of 388 (by decide +kernel) rfl
theorem kw_389 : (Jvm.Cond.instanceMethod ({ cls := "StarLess", name := "back", desc := "(I)I" } : Jvm.MethodName)) ∈ zWs := kw_of 389 (by decide +kernel) rfl
theorem kw_390 : (Jvm.Cond.selects "StarLess" ({ cls := "StarLess", name := "back", desc := "(I)I" } : Jvm.MethodName) ({ cls := "StarLess", name := "back", desc := "(I)I" } : Jvm.MethodName)) ∈ zWs := kw_of 390 (by decide +kernel) rfl
theorem kw_391 : (Jvm.Cond.code ({ cls := "StarLess", name := "back", desc := "(I)I" } : Jvm.MethodName) prog_1_method_14_code (2 : Nat) (Option.some Jvm.ClassFile.FieldType.int)) ∈ zWs := kw_of 391 (by decide +kernel) rfl
theorem kw_392 : (Jvm.Cond.methodLink "StarLessLaw" (71 : Nat) ({ cls := "StarLess", name := "limits", desc := "()I" } : Jvm.MethodName)) ∈ zWs := kw_of 392 (by decide +kernel) rfl
theorem kw_393 : (Jvm.Cond.instanceMethod ({ cls := "StarLess", name := "limits", desc := "()I" } : Jvm.MethodName)) ∈ zWs := kw_of 393 (by decide +kernel) rfl
theorem kw_394 : (Jvm.Cond.selects "StarLess" ({ cls := "StarLess", name := "limits", desc := "()I" } : Jvm.MethodName) ({ cls := "StarLess", name := "limits", desc := "()I" } : Jvm.MethodName)) ∈ zWs := kw_of 394 (by decide +kernel) rfl
theorem kw_395 : (Jvm.Cond.code ({ cls := "StarLess", name := "limits", desc := "()I" } : Jvm.MethodName) prog_1_method_15_code (4 : Nat) (Option.some Jvm.ClassFile.FieldType.int)) ∈ zWs := kw_of 395 (by decide +kernel) rfl
theorem kw_396 : (Jvm.Cond.methodLinkNest "StarLess" (187 : Nat) ({ cls := "StarLess$Log", name := "isSo", desc := "(LStarLess$House;)Z" } : Jvm.MethodName) "StarLess") ∈ zNs := kn_of 396 (by decide +kernel) rfl
theorem kw_398 : (Jvm.Cond.instanceMethod ({ cls := "StarLess$Log", name := "isSo", desc := "(LStarLess$House;)Z" } : Jvm.MethodName)) ∈ zWs := kw_of 398 (by decide +kernel) rfl
theorem kw_399 : (Jvm.Cond.code ({ cls := "StarLess$Log", name := "isSo", desc := "(LStarLess$House;)Z" } : Jvm.MethodName) prog_3_method_3_code (3 : Nat) (Option.some Jvm.ClassFile.FieldType.boolean)) ∈ zWs := kw_of 399 (by decide +kernel) rfl
theorem kw_400 : (Jvm.Cond.methodLinkNest "StarLess$Log" (26 : Nat) ({ cls := "StarLess$House", name := "isWon", desc := "(II)Z" } : Jvm.MethodName) "StarLess") ∈ zNs := kn_of 400 (by decide +kernel) rfl
theorem kw_401 : (Jvm.Cond.methodLink "StarLessLaw" (76 : Nat) ({ cls := "StarLess", name := "kinds", desc := "(I)I" } : Jvm.MethodName)) ∈ zWs := kw_of 401 (by decide +kernel) rfl
theorem kw_402 : (Jvm.Cond.instanceMethod ({ cls := "StarLess", name := "kinds", desc := "(I)I" } : Jvm.MethodName)) ∈ zWs := kw_of 402 (by decide +kernel) rfl
theorem kw_403 : (Jvm.Cond.selects "StarLess" ({ cls := "StarLess", name := "kinds", desc := "(I)I" } : Jvm.MethodName) ({ cls := "StarLess", name := "kinds", desc := "(I)I" } : Jvm.MethodName)) ∈ zWs := kw_of 403 (by decide +kernel) rfl
theorem kw_404 : (Jvm.Cond.code ({ cls := "StarLess", name := "kinds", desc := "(I)I" } : Jvm.MethodName) prog_1_method_16_code (2 : Nat) (Option.some Jvm.ClassFile.FieldType.int)) ∈ zWs := kw_of 404 (by decide +kernel) rfl
theorem kw_405 : (Jvm.Cond.methodLink "StarLess" (190 : Nat) ({ cls := "StarLess", name := "fitting", desc := "([III)I" } : Jvm.MethodName)) ∈ zWs := kw_of 405 (by decide +kernel) rfl
theorem kw_407 : (Jvm.Cond.instanceMethod ({ cls := "StarLess", name := "fitting", desc := "([III)I" } : Jvm.MethodName)) ∈ zWs := kw_of 407 (by decide +kernel) rfl
theorem kw_408 : (Jvm.Cond.code ({ cls := "StarLess", name := "fitting", desc := "([III)I" } : Jvm.MethodName) prog_1_method_40_code (7 : Nat) (Option.some Jvm.ClassFile.FieldType.int)) ∈ zWs := kw_of 408 (by decide +kernel) rfl
theorem kw_409 : (Jvm.Cond.methodLink "StarLessLaw" (80 : Nat) ({ cls := "StarLess", name := "tastes", desc := "(I)I" } : Jvm.MethodName)) ∈ zWs := kw_of 409 (by decide +kernel) rfl
theorem kw_410 : (Jvm.Cond.instanceMethod ({ cls := "StarLess", name := "tastes", desc := "(I)I" } : Jvm.MethodName)) ∈ zWs := kw_of 410 (by decide +kernel) rfl
theorem kw_411 : (Jvm.Cond.selects "StarLess" ({ cls := "StarLess", name := "tastes", desc := "(I)I" } : Jvm.MethodName) ({ cls := "StarLess", name := "tastes", desc := "(I)I" } : Jvm.MethodName)) ∈ zWs := kw_of 411 (by decide +kernel) rfl
theorem kw_412 : (Jvm.Cond.code ({ cls := "StarLess", name := "tastes", desc := "(I)I" } : Jvm.MethodName) prog_1_method_17_code (2 : Nat) (Option.some Jvm.ClassFile.FieldType.int)) ∈ zWs := kw_of 412 (by decide +kernel) rfl
theorem kw_413 : (Jvm.Cond.methodLink "StarLessLaw" (84 : Nat) ({ cls := "StarLess", name := "charms", desc := "(I)I" } : Jvm.MethodName)) ∈ zWs := kw_of 413 (by decide +kernel) rfl
theorem kw_414 : (Jvm.Cond.instanceMethod ({ cls := "StarLess", name := "charms", desc := "(I)I" } : Jvm.MethodName)) ∈ zWs := kw_of 414 (by decide +kernel) rfl
theorem kw_415 : (Jvm.Cond.selects "StarLess" ({ cls := "StarLess", name := "charms", desc := "(I)I" } : Jvm.MethodName) ({ cls := "StarLess", name := "charms", desc := "(I)I" } : Jvm.MethodName)) ∈ zWs := kw_of 415 (by decide +kernel) rfl
theorem kw_416 : (Jvm.Cond.code ({ cls := "StarLess", name := "charms", desc := "(I)I" } : Jvm.MethodName) prog_1_method_18_code (2 : Nat) (Option.some Jvm.ClassFile.FieldType.int)) ∈ zWs := kw_of 416 (by decide +kernel) rfl
theorem kw_417 : (Jvm.Cond.methodLink "StarLessLaw" (88 : Nat) ({ cls := "StarLess", name := "odds", desc := "(IIIIII)J" } : Jvm.MethodName)) ∈ zWs := kw_of 417 (by decide +kernel) rfl
theorem kw_418 : (Jvm.Cond.instanceMethod ({ cls := "StarLess", name := "odds", desc := "(IIIIII)J" } : Jvm.MethodName)) ∈ zWs := kw_of 418 (by decide +kernel) rfl
theorem kw_419 : (Jvm.Cond.selects "StarLess" ({ cls := "StarLess", name := "odds", desc := "(IIIIII)J" } : Jvm.MethodName) ({ cls := "StarLess", name := "odds", desc := "(IIIIII)J" } : Jvm.MethodName)) ∈ zWs := kw_of 419 (by decide +kernel) rfl
theorem kw_420 : (Jvm.Cond.code ({ cls := "StarLess", name := "odds", desc := "(IIIIII)J" } : Jvm.MethodName) prog_1_method_19_code (10 : Nat) (Option.some Jvm.ClassFile.FieldType.long)) ∈ zWs := kw_of 420 (by decide +kernel) rfl
theorem kw_421 : (Jvm.Cond.constantLong "StarLess" (194 : Nat) (-9223372036854775808 : Int64)) ∈ zWs := kw_of 421 (by decide +kernel) rfl
theorem kw_422 : (Jvm.Cond.methodLink "StarLess" (196 : Nat) ({ cls := "StarLess", name := "commonDivisor", desc := "(II)I" } : Jvm.MethodName)) ∈ zWs := kw_of 422 (by decide +kernel) rfl
theorem kw_423 : (Jvm.Cond.static ({ cls := "StarLess", name := "commonDivisor", desc := "(II)I" } : Jvm.MethodName)) ∈ zWs := kw_of 423 (by decide +kernel) rfl
theorem kw_424 : (Jvm.Cond.code ({ cls := "StarLess", name := "commonDivisor", desc := "(II)I" } : Jvm.MethodName) prog_1_method_36_code (6 : Nat) (Option.some Jvm.ClassFile.FieldType.int)) ∈ zWs := kw_of 424 (by decide +kernel) rfl
theorem kw_425 : (Jvm.Cond.methodLink "StarLessLaw" (93 : Nat) ({ cls := "StarLess", name := "sheet", desc := "(III)I" } : Jvm.MethodName)) ∈ zWs := kw_of 425 (by decide +kernel) rfl
theorem kw_426 : (Jvm.Cond.instanceMethod ({ cls := "StarLess", name := "sheet", desc := "(III)I" } : Jvm.MethodName)) ∈ zWs := kw_of 426 (by decide +kernel) rfl
theorem kw_427 : (Jvm.Cond.selects "StarLess" ({ cls := "StarLess", name := "sheet", desc := "(III)I" } : Jvm.MethodName) ({ cls := "StarLess", name := "sheet", desc := "(III)I" } : Jvm.MethodName)) ∈ zWs := kw_of 427 (by decide +kernel) rfl
theorem kw_428 : (Jvm.Cond.code ({ cls := "StarLess", name := "sheet", desc := "(III)I" } : Jvm.MethodName) prog_1_method_20_code (4 : Nat) (Option.some Jvm.ClassFile.FieldType.int)) ∈ zWs := kw_of 428 (by decide +kernel) rfl
theorem kw_429 : (Jvm.Cond.methodLinkNest "StarLess" (199 : Nat) ({ cls := "StarLess$Sheets", name := "renew", desc := "(III)V" } : Jvm.MethodName) "StarLess") ∈ zNs := kn_of 429 (by decide +kernel) rfl
theorem kw_431 : (Jvm.Cond.instanceMethod ({ cls := "StarLess$Sheets", name := "renew", desc := "(III)V" } : Jvm.MethodName)) ∈ zWs := kw_of 431 (by decide +kernel) rfl
theorem kw_432 : (Jvm.Cond.code ({ cls := "StarLess$Sheets", name := "renew", desc := "(III)V" } : Jvm.MethodName) prog_6_method_6_code (5 : Nat) (Option.none : Option Jvm.ClassFile.FieldType)) ∈ zWs := kw_of 432 (by decide +kernel) rfl
theorem kw_433 : (Jvm.Cond.methodLink "StarLessLaw" (98 : Nat) ({ cls := "StarLess", name := "lose", desc := "(I)I" } : Jvm.MethodName)) ∈ zWs := kw_of 433 (by decide +kernel) rfl
theorem kw_434 : (Jvm.Cond.instanceMethod ({ cls := "StarLess", name := "lose", desc := "(I)I" } : Jvm.MethodName)) ∈ zWs := kw_of 434 (by decide +kernel) rfl
theorem kw_435 : (Jvm.Cond.selects "StarLess" ({ cls := "StarLess", name := "lose", desc := "(I)I" } : Jvm.MethodName) ({ cls := "StarLess", name := "lose", desc := "(I)I" } : Jvm.MethodName)) ∈ zWs := kw_of 435 (by decide +kernel) rfl
theorem kw_436 : (Jvm.Cond.code ({ cls := "StarLess", name := "lose", desc := "(I)I" } : Jvm.MethodName) prog_1_method_21_code (3 : Nat) (Option.some Jvm.ClassFile.FieldType.int)) ∈ zWs := kw_of 436 (by decide +kernel) rfl
theorem kw_437 : (Jvm.Cond.methodLink "StarLessLaw" (102 : Nat) ({ cls := "StarLess", name := "put", desc := "(III)I" } : Jvm.MethodName)) ∈ zWs := kw_of 437 (by decide +kernel) rfl
theorem kw_438 : (Jvm.Cond.instanceMethod ({ cls := "StarLess", name := "put", desc := "(III)I" } : Jvm.MethodName)) ∈ zWs := kw_of 438 (by decide +kernel) rfl
theorem kw_439 : (Jvm.Cond.selects "StarLess" ({ cls := "StarLess", name := "put", desc := "(III)I" } : Jvm.MethodName) ({ cls := "StarLess", name := "put", desc := "(III)I" } : Jvm.MethodName)) ∈ zWs := kw_of 439 (by decide +kernel) rfl
theorem kw_440 : (Jvm.Cond.code ({ cls := "StarLess", name := "put", desc := "(III)I" } : Jvm.MethodName) prog_1_method_22_code (4 : Nat) (Option.some Jvm.ClassFile.FieldType.int)) ∈ zWs := kw_of 440 (by decide +kernel) rfl
theorem kw_441 : (Jvm.Cond.methodLinkNest "StarLess" (207 : Nat) ({ cls := "StarLess$Sheets", name := "isCell", desc := "(II)Z" } : Jvm.MethodName) "StarLess") ∈ zNs := kn_of 441 (by decide +kernel) rfl
theorem kw_443 : (Jvm.Cond.instanceMethod ({ cls := "StarLess$Sheets", name := "isCell", desc := "(II)Z" } : Jvm.MethodName)) ∈ zWs := kw_of 443 (by decide +kernel) rfl
theorem kw_444 : (Jvm.Cond.code ({ cls := "StarLess$Sheets", name := "isCell", desc := "(II)Z" } : Jvm.MethodName) prog_6_method_3_code (3 : Nat) (Option.some Jvm.ClassFile.FieldType.boolean)) ∈ zWs := kw_of 444 (by decide +kernel) rfl
theorem kw_445 : (Jvm.Cond.methodLink "StarLess" (214 : Nat) ({ cls := "StarLess", name := "cut", desc := "(II)I" } : Jvm.MethodName)) ∈ zWs := kw_of 445 (by decide +kernel) rfl
theorem kw_446 : (Jvm.Cond.static ({ cls := "StarLess", name := "cut", desc := "(II)I" } : Jvm.MethodName)) ∈ zWs := kw_of 446 (by decide +kernel) rfl
theorem kw_447 : (Jvm.Cond.code ({ cls := "StarLess", name := "cut", desc := "(II)I" } : Jvm.MethodName) prog_1_method_35_code (2 : Nat) (Option.some Jvm.ClassFile.FieldType.int)) ∈ zWs := kw_of 447 (by decide +kernel) rfl
theorem kw_448 : (Jvm.Cond.methodLink "StarLessLaw" (106 : Nat) ({ cls := "StarLess", name := "cell", desc := "(III)J" } : Jvm.MethodName)) ∈ zWs := kw_of 448 (by decide +kernel) rfl
theorem kw_449 : (Jvm.Cond.instanceMethod ({ cls := "StarLess", name := "cell", desc := "(III)J" } : Jvm.MethodName)) ∈ zWs := kw_of 449 (by decide +kernel) rfl
theorem kw_450 : (Jvm.Cond.selects "StarLess" ({ cls := "StarLess", name := "cell", desc := "(III)J" } : Jvm.MethodName) ({ cls := "StarLess", name := "cell", desc := "(III)J" } : Jvm.MethodName)) ∈ zWs := kw_of 450 (by decide +kernel) rfl
theorem kw_451 : (Jvm.Cond.code ({ cls := "StarLess", name := "cell", desc := "(III)J" } : Jvm.MethodName) prog_1_method_23_code (4 : Nat) (Option.some Jvm.ClassFile.FieldType.long)) ∈ zWs := kw_of 451 (by decide +kernel) rfl
theorem kw_452 : (Jvm.Cond.methodLink "StarLessLaw" (111 : Nat) ({ cls := "StarLess", name := "copy", desc := "(IIIII)I" } : Jvm.MethodName)) ∈ zWs := kw_of 452 (by decide +kernel) rfl
theorem kw_453 : (Jvm.Cond.instanceMethod ({ cls := "StarLess", name := "copy", desc := "(IIIII)I" } : Jvm.MethodName)) ∈ zWs := kw_of 453 (by decide +kernel) rfl
theorem kw_454 : (Jvm.Cond.selects "StarLess" ({ cls := "StarLess", name := "copy", desc := "(IIIII)I" } : Jvm.MethodName) ({ cls := "StarLess", name := "copy", desc := "(IIIII)I" } : Jvm.MethodName)) ∈ zWs := kw_of 454 (by decide +kernel) rfl
theorem kw_455 : (Jvm.Cond.code ({ cls := "StarLess", name := "copy", desc := "(IIIII)I" } : Jvm.MethodName) prog_1_method_24_code (6 : Nat) (Option.some Jvm.ClassFile.FieldType.int)) ∈ zWs := kw_of 455 (by decide +kernel) rfl
theorem kw_456 : (Jvm.Cond.methodLink "StarLess" (217 : Nat) ({ cls := "java/lang/System", name := "arraycopy", desc := "(Ljava/lang/Object;ILjava/lang/Object;II)V" } : Jvm.MethodName)) ∈ zWs := kw_of 456 (by decide +kernel) rfl
theorem kw_457 : (Jvm.Cond.static ({ cls := "java/lang/System", name := "arraycopy", desc := "(Ljava/lang/Object;ILjava/lang/Object;II)V" } : Jvm.MethodName)) ∈ zWs := kw_of 457 (by decide +kernel) rfl
theorem kw_458 : (Jvm.Cond.native ({ cls := "java/lang/System", name := "arraycopy", desc := "(Ljava/lang/Object;ILjava/lang/Object;II)V" } : Jvm.MethodName)) ∈ zWs := kw_of 458 (by decide +kernel) rfl
theorem kw_459 : (Jvm.Cond.methodLink "StarLessLaw" (115 : Nat) ({ cls := "StarLess", name := "tell", desc := "(I)I" } : Jvm.MethodName)) ∈ zWs := kw_of 459 (by decide +kernel) rfl
theorem kw_460 : (Jvm.Cond.instanceMethod ({ cls := "StarLess", name := "tell", desc := "(I)I" } : Jvm.MethodName)) ∈ zWs := kw_of 460 (by decide +kernel) rfl
theorem kw_461 : (Jvm.Cond.selects "StarLess" ({ cls := "StarLess", name := "tell", desc := "(I)I" } : Jvm.MethodName) ({ cls := "StarLess", name := "tell", desc := "(I)I" } : Jvm.MethodName)) ∈ zWs := kw_of 461 (by decide +kernel) rfl
theorem kw_462 : (Jvm.Cond.code ({ cls := "StarLess", name := "tell", desc := "(I)I" } : Jvm.MethodName) prog_1_method_25_code (2 : Nat) (Option.some Jvm.ClassFile.FieldType.int)) ∈ zWs := kw_of 462 (by decide +kernel) rfl
theorem kw_463 : (Jvm.Cond.methodLink "StarLess" (223 : Nat) ({ cls := "StarLess", name := "tellAsPoet", desc := "(I)I" } : Jvm.MethodName)) ∈ zWs := kw_of 463 (by decide +kernel) rfl
theorem kw_465 : (Jvm.Cond.instanceMethod ({ cls := "StarLess", name := "tellAsPoet", desc := "(I)I" } : Jvm.MethodName)) ∈ zWs := kw_of 465 (by decide +kernel) rfl
theorem kw_466 : (Jvm.Cond.code ({ cls := "StarLess", name := "tellAsPoet", desc := "(I)I" } : Jvm.MethodName) prog_1_method_44_code (3 : Nat) (Option.some Jvm.ClassFile.FieldType.int)) ∈ zWs := kw_of 466 (by decide +kernel) rfl
theorem kw_467 : (Jvm.Cond.methodLink "StarLess" (232 : Nat) ({ cls := "StarLess", name := "leave", desc := "(I)V" } : Jvm.MethodName)) ∈ zWs := kw_of 467 (by decide +kernel) rfl
theorem kw_469 : (Jvm.Cond.instanceMethod ({ cls := "StarLess", name := "leave", desc := "(I)V" } : Jvm.MethodName)) ∈ zWs := kw_of 469 (by decide +kernel) rfl
theorem kw_470 : (Jvm.Cond.code ({ cls := "StarLess", name := "leave", desc := "(I)V" } : Jvm.MethodName) prog_1_method_41_code (2 : Nat) (Option.none : Option Jvm.ClassFile.FieldType)) ∈ zWs := kw_of 470 (by decide +kernel) rfl
theorem kw_471 : (Jvm.Cond.methodLink "StarLess" (226 : Nat) ({ cls := "StarLess", name := "tellAsCritic", desc := "(I)I" } : Jvm.MethodName)) ∈ zWs := kw_of 471 (by decide +kernel) rfl
theorem kw_473 : (Jvm.Cond.instanceMethod ({ cls := "StarLess", name := "tellAsCritic", desc := "(I)I" } : Jvm.MethodName)) ∈ zWs := kw_of 473 (by decide +kernel) rfl
theorem kw_474 : (Jvm.Cond.code ({ cls := "StarLess", name := "tellAsCritic", desc := "(I)I" } : Jvm.MethodName) prog_1_method_43_code (2 : Nat) (Option.some Jvm.ClassFile.FieldType.int)) ∈ zWs := kw_of 474 (by decide +kernel) rfl
theorem kw_475 : (Jvm.Cond.methodLink "StarLess" (229 : Nat) ({ cls := "StarLess", name := "tellAsGuest", desc := "(I)I" } : Jvm.MethodName)) ∈ zWs := kw_of 475 (by decide +kernel) rfl
theorem kw_477 : (Jvm.Cond.instanceMethod ({ cls := "StarLess", name := "tellAsGuest", desc := "(I)I" } : Jvm.MethodName)) ∈ zWs := kw_of 477 (by decide +kernel) rfl
theorem kw_478 : (Jvm.Cond.code ({ cls := "StarLess", name := "tellAsGuest", desc := "(I)I" } : Jvm.MethodName) prog_1_method_42_code (2 : Nat) (Option.some Jvm.ClassFile.FieldType.int)) ∈ zWs := kw_of 478 (by decide +kernel) rfl
theorem kw_479 : (Jvm.Cond.methodLink "StarLessLaw" (119 : Nat) ({ cls := "StarLess", name := "greet", desc := "(I)I" } : Jvm.MethodName)) ∈ zWs := kw_of 479 (by decide +kernel) rfl
theorem kw_480 : (Jvm.Cond.instanceMethod ({ cls := "StarLess", name := "greet", desc := "(I)I" } : Jvm.MethodName)) ∈ zWs := kw_of 480 (by decide +kernel) rfl
theorem kw_481 : (Jvm.Cond.selects "StarLess" ({ cls := "StarLess", name := "greet", desc := "(I)I" } : Jvm.MethodName) ({ cls := "StarLess", name := "greet", desc := "(I)I" } : Jvm.MethodName)) ∈ zWs := kw_of 481 (by decide +kernel) rfl
theorem kw_482 : (Jvm.Cond.code ({ cls := "StarLess", name := "greet", desc := "(I)I" } : Jvm.MethodName) prog_1_method_26_code (2 : Nat) (Option.some Jvm.ClassFile.FieldType.int)) ∈ zWs := kw_of 482 (by decide +kernel) rfl
theorem kw_483 : (Jvm.Cond.methodLink "StarLessLaw" (123 : Nat) ({ cls := "StarLess", name := "as", desc := "(II)I" } : Jvm.MethodName)) ∈ zWs := kw_of 483 (by decide +kernel) rfl
theorem kw_484 : (Jvm.Cond.instanceMethod ({ cls := "StarLess", name := "as", desc := "(II)I" } : Jvm.MethodName)) ∈ zWs := kw_of 484 (by decide +kernel) rfl
theorem kw_485 : (Jvm.Cond.selects "StarLess" ({ cls := "StarLess", name := "as", desc := "(II)I" } : Jvm.MethodName) ({ cls := "StarLess", name := "as", desc := "(II)I" } : Jvm.MethodName)) ∈ zWs := kw_of 485 (by decide +kernel) rfl
theorem kw_486 : (Jvm.Cond.code ({ cls := "StarLess", name := "as", desc := "(II)I" } : Jvm.MethodName) prog_1_method_27_code (3 : Nat) (Option.some Jvm.ClassFile.FieldType.int)) ∈ zWs := kw_of 486 (by decide +kernel) rfl
theorem kw_487 : (Jvm.Cond.methodLink "StarLessLaw" (127 : Nat) ({ cls := "StarLess", name := "trace", desc := "()I" } : Jvm.MethodName)) ∈ zWs := kw_of 487 (by decide +kernel) rfl
theorem kw_488 : (Jvm.Cond.instanceMethod ({ cls := "StarLess", name := "trace", desc := "()I" } : Jvm.MethodName)) ∈ zWs := kw_of 488 (by decide +kernel) rfl
theorem kw_489 : (Jvm.Cond.selects "StarLess" ({ cls := "StarLess", name := "trace", desc := "()I" } : Jvm.MethodName) ({ cls := "StarLess", name := "trace", desc := "()I" } : Jvm.MethodName)) ∈ zWs := kw_of 489 (by decide +kernel) rfl
theorem kw_490 : (Jvm.Cond.code ({ cls := "StarLess", name := "trace", desc := "()I" } : Jvm.MethodName) prog_1_method_28_code (1 : Nat) (Option.some Jvm.ClassFile.FieldType.int)) ∈ zWs := kw_of 490 (by decide +kernel) rfl
theorem kw_491 : (Jvm.Cond.methodLink "StarLessLaw" (131 : Nat) ({ cls := "StarLess", name := "fault", desc := "()I" } : Jvm.MethodName)) ∈ zWs := kw_of 491 (by decide +kernel) rfl
theorem kw_492 : (Jvm.Cond.instanceMethod ({ cls := "StarLess", name := "fault", desc := "()I" } : Jvm.MethodName)) ∈ zWs := kw_of 492 (by decide +kernel) rfl
theorem kw_493 : (Jvm.Cond.selects "StarLess" ({ cls := "StarLess", name := "fault", desc := "()I" } : Jvm.MethodName) ({ cls := "StarLess", name := "fault", desc := "()I" } : Jvm.MethodName)) ∈ zWs := kw_of 493 (by decide +kernel) rfl
theorem kw_494 : (Jvm.Cond.code ({ cls := "StarLess", name := "fault", desc := "()I" } : Jvm.MethodName) prog_1_method_29_code (1 : Nat) (Option.some Jvm.ClassFile.FieldType.int)) ∈ zWs := kw_of 494 (by decide +kernel) rfl
theorem kw_495 : (Jvm.Cond.methodLink "StarLessLaw" (135 : Nat) ({ cls := "StarLess", name := "many", desc := "(I)I" } : Jvm.MethodName)) ∈ zWs := kw_of 495 (by decide +kernel) rfl
theorem kw_496 : (Jvm.Cond.instanceMethod ({ cls := "StarLess", name := "many", desc := "(I)I" } : Jvm.MethodName)) ∈ zWs := kw_of 496 (by decide +kernel) rfl
theorem kw_497 : (Jvm.Cond.selects "StarLess" ({ cls := "StarLess", name := "many", desc := "(I)I" } : Jvm.MethodName) ({ cls := "StarLess", name := "many", desc := "(I)I" } : Jvm.MethodName)) ∈ zWs := kw_of 497 (by decide +kernel) rfl
theorem kw_498 : (Jvm.Cond.code ({ cls := "StarLess", name := "many", desc := "(I)I" } : Jvm.MethodName) prog_1_method_30_code (2 : Nat) (Option.some Jvm.ClassFile.FieldType.int)) ∈ zWs := kw_of 498 (by decide +kernel) rfl
theorem kw_499 : (Jvm.Cond.classLink "StarLessLaw" (10 : Nat) "StarLessModel") ∈ zWs := kw_of 499 (by decide +kernel) rfl
theorem kw_500 : (Jvm.Cond.instantiable "StarLessModel" (38 : Nat)) ∈ zWs := kw_of 500 (by decide +kernel) rfl
theorem kw_501 : (Jvm.Cond.methodLink "StarLessLaw" (12 : Nat) ({ cls := "StarLessModel", name := "<init>", desc := "()V" } : Jvm.MethodName)) ∈ zWs := kw_of 501 (by decide +kernel) rfl
theorem kw_502 : (Jvm.Cond.instanceMethod ({ cls := "StarLessModel", name := "<init>", desc := "()V" } : Jvm.MethodName)) ∈ zWs := kw_of 502 (by decide +kernel) rfl
theorem kw_503 : (Jvm.Cond.code ({ cls := "StarLessModel", name := "<init>", desc := "()V" } : Jvm.MethodName) prog_9_method_1_code (2 : Nat) (Option.none : Option Jvm.ClassFile.FieldType)) ∈ zWs := kw_of 503 (by decide +kernel) rfl
theorem kw_504 : (Jvm.Cond.methodLink "StarLessModel" (1 : Nat) ({ cls := "java/lang/Object", name := "<init>", desc := "()V" } : Jvm.MethodName)) ∈ zWs := kw_of 504 (by decide +kernel) rfl
theorem kw_505 : (Jvm.Cond.fieldLink "StarLessModel" (67 : Nat) "StarLessModel" "fault" "I") ∈ zWs := kw_of 505 (by decide +kernel) rfl
theorem kw_506 : (Jvm.Cond.fieldLink "StarLessModel" (139 : Nat) "StarLessModel" "starsNow" "I") ∈ zWs := kw_of 506 (by decide +kernel) rfl
theorem kw_507 : (Jvm.Cond.fieldLink "StarLessModel" (142 : Nat) "StarLessModel" "strictNow" "I") ∈ zWs := kw_of 507 (by decide +kernel) rfl
theorem kw_508 : (Jvm.Cond.fieldLink "StarLessModel" (82 : Nat) "StarLessModel" "doings" "I") ∈ zWs := kw_of 508 (by decide +kernel) rfl
theorem kw_509 : (Jvm.Cond.fieldLink "StarLessModel" (7 : Nat) "StarLessModel" "charmOf" "[I") ∈ zWs := kw_of 509 (by decide +kernel) rfl
theorem kw_510 : (Jvm.Cond.fieldLink "StarLessModel" (13 : Nat) "StarLessModel" "costOf" "[I") ∈ zWs := kw_of 510 (by decide +kernel) rfl
theorem kw_511 : (Jvm.Cond.fieldLink "StarLessModel" (75 : Nat) "StarLessModel" "guests" "I") ∈ zWs := kw_of 511 (by decide +kernel) rfl
theorem kw_512 : (Jvm.Cond.fieldLink "StarLessModel" (16 : Nat) "StarLessModel" "kindOf" "[I") ∈ zWs := kw_of 512 (by decide +kernel) rfl
theorem kw_513 : (Jvm.Cond.fieldLink "StarLessModel" (19 : Nat) "StarLessModel" "tasteOf" "[I") ∈ zWs := kw_of 513 (by decide +kernel) rfl
theorem kw_514 : (Jvm.Cond.fieldLink "StarLessModel" (22 : Nat) "StarLessModel" "lovesOf" "[I") ∈ zWs := kw_of 514 (by decide +kernel) rfl
theorem kw_515 : (Jvm.Cond.fieldLink "StarLessModel" (85 : Nat) "StarLessModel" "readAt" "I") ∈ zWs := kw_of 515 (by decide +kernel) rfl
theorem kw_516 : (Jvm.Cond.fieldLink "StarLessModel" (102 : Nat) "StarLessModel" "readStars" "I") ∈ zWs := kw_of 516 (by decide +kernel) rfl
theorem kw_517 : (Jvm.Cond.fieldLink "StarLessModel" (105 : Nat) "StarLessModel" "readStrict" "I") ∈ zWs := kw_of 517 (by decide +kernel) rfl
theorem kw_518 : (Jvm.Cond.fieldLink "StarLessModel" (92 : Nat) "StarLessModel" "readDoings" "I") ∈ zWs := kw_of 518 (by decide +kernel) rfl
theorem kw_519 : (Jvm.Cond.fieldLink "StarLessModel" (99 : Nat) "StarLessModel" "readGuests" "I") ∈ zWs := kw_of 519 (by decide +kernel) rfl
theorem kw_520 : (Jvm.Cond.fieldLink "StarLessModel" (25 : Nat) "StarLessModel" "readCharm" "[I") ∈ zWs := kw_of 520 (by decide +kernel) rfl
theorem kw_521 : (Jvm.Cond.fieldLink "StarLessModel" (28 : Nat) "StarLessModel" "readCost" "[I") ∈ zWs := kw_of 521 (by decide +kernel) rfl
theorem kw_522 : (Jvm.Cond.fieldLink "StarLessModel" (31 : Nat) "StarLessModel" "readKind" "[I") ∈ zWs := kw_of 522 (by decide +kernel) rfl
theorem kw_523 : (Jvm.Cond.fieldLink "StarLessModel" (34 : Nat) "StarLessModel" "readTaste" "[I") ∈ zWs := kw_of 523 (by decide +kernel) rfl
theorem kw_524 : (Jvm.Cond.fieldLink "StarLessModel" (37 : Nat) "StarLessModel" "readLoves" "[I") ∈ zWs := kw_of 524 (by decide +kernel) rfl
theorem kw_525 : (Jvm.Cond.fieldLink "StarLessModel" (167 : Nat) "StarLessModel" "firstWrong" "I") ∈ zWs := kw_of 525 (by decide +kernel) rfl
theorem kw_526 : (Jvm.Cond.fieldLink "StarLessModel" (170 : Nat) "StarLessModel" "leftNow" "I") ∈ zWs := kw_of 526 (by decide +kernel) rfl
theorem kw_527 : (Jvm.Cond.fieldLink "StarLessModel" (173 : Nat) "StarLessModel" "starsThen" "I") ∈ zWs := kw_of 527 (by decide +kernel) rfl
theorem kw_528 : (Jvm.Cond.fieldLink "StarLessModel" (176 : Nat) "StarLessModel" "emptyAt" "I") ∈ zWs := kw_of 528 (by decide +kernel) rfl
theorem kw_529 : (Jvm.Cond.fieldLink "StarLessModel" (179 : Nat) "StarLessModel" "pleasure" "I") ∈ zWs := kw_of 529 (by decide +kernel) rfl
theorem kw_530 : (Jvm.Cond.fieldLink "StarLessModel" (40 : Nat) "StarLessModel" "doesRow" "[I") ∈ zWs := kw_of 530 (by decide +kernel) rfl
theorem kw_531 : (Jvm.Cond.fieldLink "StarLessModel" (203 : Nat) "StarLessModel" "rowCost" "I") ∈ zWs := kw_of 531 (by decide +kernel) rfl
theorem kw_532 : (Jvm.Cond.fieldLink "StarLessModel" (206 : Nat) "StarLessModel" "rowLost" "I") ∈ zWs := kw_of 532 (by decide +kernel) rfl
theorem kw_533 : (Jvm.Cond.fieldLink "StarLessModel" (209 : Nat) "StarLessModel" "rowPleased" "I") ∈ zWs := kw_of 533 (by decide +kernel) rfl
theorem kw_534 : (Jvm.Cond.fieldLink "StarLessModel" (145 : Nat) "StarLessModel" "readings" "I") ∈ zWs := kw_of 534 (by decide +kernel) rfl
theorem kw_535 : (Jvm.Cond.fieldLink "StarLessModel" (43 : Nat) "StarLessModel" "readingOf" "[I") ∈ zWs := kw_of 535 (by decide +kernel) rfl
theorem kw_536 : (Jvm.Cond.fieldLink "StarLessModel" (46 : Nat) "StarLessModel" "readingBy" "[I") ∈ zWs := kw_of 536 (by decide +kernel) rfl
theorem kw_537 : (Jvm.Cond.fieldLink "StarLessModel" (49 : Nat) "StarLessModel" "readingLost" "[Z") ∈ zWs := kw_of 537 (by decide +kernel) rfl
theorem kw_538 : (Jvm.Cond.fieldLink "StarLessModel" (53 : Nat) "StarLessModel" "sheetSize" "[I") ∈ zWs := kw_of 538 (by decide +kernel) rfl
theorem kw_539 : (Jvm.Cond.fieldLink "StarLessModel" (56 : Nat) "StarLessModel" "sheetLane" "[I") ∈ zWs := kw_of 539 (by decide +kernel) rfl
theorem kw_540 : (Jvm.Cond.fieldLink "StarLessModel" (59 : Nat) "StarLessModel" "sheet" "[I") ∈ zWs := kw_of 540 (by decide +kernel) rfl
theorem kw_541 : (Jvm.Cond.fieldLink "StarLessModel" (62 : Nat) "StarLessModel" "hands" "[I") ∈ zWs := kw_of 541 (by decide +kernel) rfl
theorem kw_542 : (Jvm.Cond.fieldLink "StarLessModel" (236 : Nat) "StarLessModel" "traceNow" "I") ∈ zWs := kw_of 542 (by decide +kernel) rfl
theorem kw_620 : (Jvm.Cond.methodLink "StarLessLaw" (17 : Nat) ({ cls := "StarLessModel", name := "hotel", desc := "(IIII)I" } : Jvm.MethodName)) ∈ zWs := kw_of 620 (by decide +kernel) rfl
theorem kw_621 : (Jvm.Cond.instanceMethod ({ cls := "StarLessModel", name := "hotel", desc := "(IIII)I" } : Jvm.MethodName)) ∈ zWs := kw_of 621 (by decide +kernel) rfl
theorem kw_622 : (Jvm.Cond.selects "StarLessModel" ({ cls := "StarLessModel", name := "hotel", desc := "(IIII)I" } : Jvm.MethodName) ({ cls := "StarLessModel", name := "hotel", desc := "(IIII)I" } : Jvm.MethodName)) ∈ zWs := kw_of 622 (by decide +kernel) rfl
theorem kw_623 : (Jvm.Cond.code ({ cls := "StarLessModel", name := "hotel", desc := "(IIII)I" } : Jvm.MethodName) prog_9_method_18_code (7 : Nat) (Option.some Jvm.ClassFile.FieldType.int)) ∈ zWs := kw_of 623 (by decide +kernel) rfl
theorem kw_624 : (Jvm.Cond.methodLink "StarLessModel" (123 : Nat) ({ cls := "StarLessModel", name := "noSheet", desc := "(I)Z" } : Jvm.MethodName)) ∈ zWs := kw_of 624 (by decide +kernel) rfl
theorem kw_625 : (Jvm.Cond.static ({ cls := "StarLessModel", name := "noSheet", desc := "(I)Z" } : Jvm.MethodName)) ∈ zWs := kw_of 625 (by decide +kernel) rfl
theorem kw_626 : (Jvm.Cond.code ({ cls := "StarLessModel", name := "noSheet", desc := "(I)Z" } : Jvm.MethodName) prog_9_method_45_code (1 : Nat) (Option.some Jvm.ClassFile.FieldType.boolean)) ∈ zWs := kw_of 626 (by decide +kernel) rfl
theorem kw_627 : (Jvm.Cond.constantLong "StarLessModel" (227 : Nat) (3 : Int64)) ∈ zWs := kw_of 627 (by decide +kernel) rfl
theorem kw_628 : (Jvm.Cond.methodLink "StarLessModel" (78 : Nat) ({ cls := "StarLessModel", name := "in", desc := "(JJJ)Z" } : Jvm.MethodName)) ∈ zWs := kw_of 628 (by decide +kernel) rfl
theorem kw_629 : (Jvm.Cond.static ({ cls := "StarLessModel", name := "in", desc := "(JJJ)Z" } : Jvm.MethodName)) ∈ zWs := kw_of 629 (by decide +kernel) rfl
theorem kw_630 : (Jvm.Cond.code ({ cls := "StarLessModel", name := "in", desc := "(JJJ)Z" } : Jvm.MethodName) prog_9_method_2_code (6 : Nat) (Option.some Jvm.ClassFile.FieldType.boolean)) ∈ zWs := kw_of 630 (by decide +kernel) rfl
theorem kw_631 : (Jvm.Cond.methodLink "StarLessModel" (127 : Nat) ({ cls := "StarLessModel", name := "refused", desc := "(I)I" } : Jvm.MethodName)) ∈ zWs := kw_of 631 (by decide +kernel) rfl
theorem kw_633 : (Jvm.Cond.instanceMethod ({ cls := "StarLessModel", name := "refused", desc := "(I)I" } : Jvm.MethodName)) ∈ zWs := kw_of 633 (by decide +kernel) rfl
theorem kw_634 : (Jvm.Cond.code ({ cls := "StarLessModel", name := "refused", desc := "(I)I" } : Jvm.MethodName) prog_9_method_6_code (2 : Nat) (Option.some Jvm.ClassFile.FieldType.int)) ∈ zWs := kw_of 634 (by decide +kernel) rfl
theorem kw_635 : (Jvm.Cond.constantLong "StarLessModel" (130 : Nat) (2 : Int64)) ∈ zWs := kw_of 635 (by decide +kernel) rfl
theorem kw_636 : (Jvm.Cond.methodLink "StarLessModel" (132 : Nat) ({ cls := "StarLessModel", name := "cellsBarred", desc := "(IIIJ)I" } : Jvm.MethodName)) ∈ zWs := kw_of 636 (by decide +kernel) rfl
theorem kw_638 : (Jvm.Cond.instanceMethod ({ cls := "StarLessModel", name := "cellsBarred", desc := "(IIIJ)I" } : Jvm.MethodName)) ∈ zWs := kw_of 638 (by decide +kernel) rfl
theorem kw_639 : (Jvm.Cond.code ({ cls := "StarLessModel", name := "cellsBarred", desc := "(IIIJ)I" } : Jvm.MethodName) prog_9_method_17_code (6 : Nat) (Option.some Jvm.ClassFile.FieldType.int)) ∈ zWs := kw_of 639 (by decide +kernel) rfl
theorem kw_640 : (Jvm.Cond.methodLink "StarLessModel" (115 : Nat) ({ cls := "StarLessModel", name := "failed", desc := "(I)I" } : Jvm.MethodName)) ∈ zWs := kw_of 640 (by decide +kernel) rfl
theorem kw_642 : (Jvm.Cond.instanceMethod ({ cls := "StarLessModel", name := "failed", desc := "(I)I" } : Jvm.MethodName)) ∈ zWs := kw_of 642 (by decide +kernel) rfl
theorem kw_643 : (Jvm.Cond.code ({ cls := "StarLessModel", name := "failed", desc := "(I)I" } : Jvm.MethodName) prog_9_method_7_code (2 : Nat) (Option.some Jvm.ClassFile.FieldType.int)) ∈ zWs := kw_of 643 (by decide +kernel) rfl
theorem kw_644 : (Jvm.Cond.methodLink "StarLessModel" (119 : Nat) ({ cls := "StarLessModel", name := "isBeyond", desc := "(IJI)Z" } : Jvm.MethodName)) ∈ zWs := kw_of 644 (by decide +kernel) rfl
theorem kw_645 : (Jvm.Cond.static ({ cls := "StarLessModel", name := "isBeyond", desc := "(IJI)Z" } : Jvm.MethodName)) ∈ zWs := kw_of 645 (by decide +kernel) rfl
theorem kw_646 : (Jvm.Cond.code ({ cls := "StarLessModel", name := "isBeyond", desc := "(IJI)Z" } : Jvm.MethodName) prog_9_method_51_code (4 : Nat) (Option.some Jvm.ClassFile.FieldType.boolean)) ∈ zWs := kw_of 646 (by decide +kernel) rfl
theorem kw_647 : (Jvm.Cond.methodLink "StarLessModel" (136 : Nat) ({ cls := "StarLessModel", name := "readsHotel", desc := "(II)Z" } : Jvm.MethodName)) ∈ zWs := kw_of 647 (by decide +kernel) rfl
theorem kw_649 : (Jvm.Cond.instanceMethod ({ cls := "StarLessModel", name := "readsHotel", desc := "(II)Z" } : Jvm.MethodName)) ∈ zWs := kw_of 649 (by decide +kernel) rfl
theorem kw_650 : (Jvm.Cond.code ({ cls := "StarLessModel", name := "readsHotel", desc := "(II)Z" } : Jvm.MethodName) prog_9_method_16_code (4 : Nat) (Option.some Jvm.ClassFile.FieldType.boolean)) ∈ zWs := kw_of 650 (by decide +kernel) rfl
theorem kw_651 : (Jvm.Cond.methodLink "StarLessModel" (88 : Nat) ({ cls := "StarLessModel", name := "codeAt", desc := "(II)I" } : Jvm.MethodName)) ∈ zWs := kw_of 651 (by decide +kernel) rfl
theorem kw_653 : (Jvm.Cond.instanceMethod ({ cls := "StarLessModel", name := "codeAt", desc := "(II)I" } : Jvm.MethodName)) ∈ zWs := kw_of 653 (by decide +kernel) rfl
theorem kw_654 : (Jvm.Cond.code ({ cls := "StarLessModel", name := "codeAt", desc := "(II)I" } : Jvm.MethodName) prog_9_method_12_code (3 : Nat) (Option.some Jvm.ClassFile.FieldType.int)) ∈ zWs := kw_of 654 (by decide +kernel) rfl
theorem kw_655 : (Jvm.Cond.methodLink "StarLessModel" (95 : Nat) ({ cls := "StarLessModel", name := "figure", desc := "(IIII)I" } : Jvm.MethodName)) ∈ zWs := kw_of 655 (by decide +kernel) rfl
theorem kw_657 : (Jvm.Cond.instanceMethod ({ cls := "StarLessModel", name := "figure", desc := "(IIII)I" } : Jvm.MethodName)) ∈ zWs := kw_of 657 (by decide +kernel) rfl
theorem kw_658 : (Jvm.Cond.code ({ cls := "StarLessModel", name := "figure", desc := "(IIII)I" } : Jvm.MethodName) prog_9_method_13_code (7 : Nat) (Option.some Jvm.ClassFile.FieldType.int)) ∈ zWs := kw_of 658 (by decide +kernel) rfl
theorem kw_659 : (Jvm.Cond.methodLink "StarLessModel" (108 : Nat) ({ cls := "StarLessModel", name := "readsDoing", desc := "(II)Z" } : Jvm.MethodName)) ∈ zWs := kw_of 659 (by decide +kernel) rfl
theorem kw_661 : (Jvm.Cond.instanceMethod ({ cls := "StarLessModel", name := "readsDoing", desc := "(II)Z" } : Jvm.MethodName)) ∈ zWs := kw_of 661 (by decide +kernel) rfl
theorem kw_662 : (Jvm.Cond.code ({ cls := "StarLessModel", name := "readsDoing", desc := "(II)Z" } : Jvm.MethodName) prog_9_method_14_code (5 : Nat) (Option.some Jvm.ClassFile.FieldType.boolean)) ∈ zWs := kw_of 662 (by decide +kernel) rfl
theorem kw_663 : (Jvm.Cond.methodLink "StarLessModel" (112 : Nat) ({ cls := "StarLessModel", name := "readsGuest", desc := "(II)Z" } : Jvm.MethodName)) ∈ zWs := kw_of 663 (by decide +kernel) rfl
theorem kw_665 : (Jvm.Cond.instanceMethod ({ cls := "StarLessModel", name := "readsGuest", desc := "(II)Z" } : Jvm.MethodName)) ∈ zWs := kw_of 665 (by decide +kernel) rfl
theorem kw_666 : (Jvm.Cond.code ({ cls := "StarLessModel", name := "readsGuest", desc := "(II)Z" } : Jvm.MethodName) prog_9_method_15_code (6 : Nat) (Option.some Jvm.ClassFile.FieldType.boolean)) ∈ zWs := kw_of 666 (by decide +kernel) rfl
theorem kw_667 : (Jvm.Cond.methodLink "StarLessLaw" (22 : Nat) ({ cls := "StarLessModel", name := "ofGuest", desc := "(II)I" } : Jvm.MethodName)) ∈ zWs := kw_of 667 (by decide +kernel) rfl
theorem kw_668 : (Jvm.Cond.instanceMethod ({ cls := "StarLessModel", name := "ofGuest", desc := "(II)I" } : Jvm.MethodName)) ∈ zWs := kw_of 668 (by decide +kernel) rfl
theorem kw_669 : (Jvm.Cond.selects "StarLessModel" ({ cls := "StarLessModel", name := "ofGuest", desc := "(II)I" } : Jvm.MethodName) ({ cls := "StarLessModel", name := "ofGuest", desc := "(II)I" } : Jvm.MethodName)) ∈ zWs := kw_of 669 (by decide +kernel) rfl
theorem kw_670 : (Jvm.Cond.code ({ cls := "StarLessModel", name := "ofGuest", desc := "(II)I" } : Jvm.MethodName) prog_9_method_22_code (3 : Nat) (Option.some Jvm.ClassFile.FieldType.int)) ∈ zWs := kw_of 670 (by decide +kernel) rfl
theorem kw_671 : (Jvm.Cond.methodLink "StarLessModel" (154 : Nat) ({ cls := "StarLessModel", name := "noGuest", desc := "(I)Z" } : Jvm.MethodName)) ∈ zWs := kw_of 671 (by decide +kernel) rfl
theorem kw_673 : (Jvm.Cond.instanceMethod ({ cls := "StarLessModel", name := "noGuest", desc := "(I)Z" } : Jvm.MethodName)) ∈ zWs := kw_of 673 (by decide +kernel) rfl
theorem kw_674 : (Jvm.Cond.code ({ cls := "StarLessModel", name := "noGuest", desc := "(I)Z" } : Jvm.MethodName) prog_9_method_9_code (2 : Nat) (Option.some Jvm.ClassFile.FieldType.boolean)) ∈ zWs := kw_of 674 (by decide +kernel) rfl
theorem kw_675 : (Jvm.Cond.methodLink "StarLessLaw" (26 : Nat) ({ cls := "StarLessModel", name := "ofDoing", desc := "(II)I" } : Jvm.MethodName)) ∈ zWs := kw_of 675 (by decide +kernel) rfl
theorem kw_676 : (Jvm.Cond.instanceMethod ({ cls := "StarLessModel", name := "ofDoing", desc := "(II)I" } : Jvm.MethodName)) ∈ zWs := kw_of 676 (by decide +kernel) rfl
theorem kw_677 : (Jvm.Cond.selects "StarLessModel" ({ cls := "StarLessModel", name := "ofDoing", desc := "(II)I" } : Jvm.MethodName) ({ cls := "StarLessModel", name := "ofDoing", desc := "(II)I" } : Jvm.MethodName)) ∈ zWs := kw_of 677 (by decide +kernel) rfl
theorem kw_678 : (Jvm.Cond.code ({ cls := "StarLessModel", name := "ofDoing", desc := "(II)I" } : Jvm.MethodName) prog_9_method_23_code (3 : Nat) (Option.some Jvm.ClassFile.FieldType.int)) ∈ zWs := kw_of 678 (by decide +kernel) rfl
theorem kw_679 : (Jvm.Cond.methodLink "StarLessModel" (157 : Nat) ({ cls := "StarLessModel", name := "noDoing", desc := "(I)Z" } : Jvm.MethodName)) ∈ zWs := kw_of 679 (by decide +kernel) rfl
theorem kw_681 : (Jvm.Cond.instanceMethod ({ cls := "StarLessModel", name := "noDoing", desc := "(I)Z" } : Jvm.MethodName)) ∈ zWs := kw_of 681 (by decide +kernel) rfl
theorem kw_682 : (Jvm.Cond.code ({ cls := "StarLessModel", name := "noDoing", desc := "(I)Z" } : Jvm.MethodName) prog_9_method_10_code (2 : Nat) (Option.some Jvm.ClassFile.FieldType.boolean)) ∈ zWs := kw_of 682 (by decide +kernel) rfl
theorem kw_683 : (Jvm.Cond.methodLink "StarLessModel" (160 : Nat) ({ cls := "StarLessModel", name := "losersOf", desc := "(I)I" } : Jvm.MethodName)) ∈ zWs := kw_of 683 (by decide +kernel) rfl
theorem kw_685 : (Jvm.Cond.instanceMethod ({ cls := "StarLessModel", name := "losersOf", desc := "(I)I" } : Jvm.MethodName)) ∈ zWs := kw_of 685 (by decide +kernel) rfl
theorem kw_686 : (Jvm.Cond.code ({ cls := "StarLessModel", name := "losersOf", desc := "(I)I" } : Jvm.MethodName) prog_9_method_21_code (4 : Nat) (Option.some Jvm.ClassFile.FieldType.int)) ∈ zWs := kw_of 686 (by decide +kernel) rfl
theorem kw_687 : (Jvm.Cond.methodLink "StarLessModel" (151 : Nat) ({ cls := "StarLessModel", name := "doesLose", desc := "(II)Z" } : Jvm.MethodName)) ∈ zWs := kw_of 687 (by decide +kernel) rfl
theorem kw_689 : (Jvm.Cond.instanceMethod ({ cls := "StarLessModel", name := "doesLose", desc := "(II)Z" } : Jvm.MethodName)) ∈ zWs := kw_of 689 (by decide +kernel) rfl
theorem kw_690 : (Jvm.Cond.code ({ cls := "StarLessModel", name := "doesLose", desc := "(II)Z" } : Jvm.MethodName) prog_9_method_20_code (3 : Nat) (Option.some Jvm.ClassFile.FieldType.boolean)) ∈ zWs := kw_of 690 (by decide +kernel) rfl
theorem kw_691 : (Jvm.Cond.methodLink "StarLessModel" (148 : Nat) ({ cls := "StarLessModel", name := "pleasedBy", desc := "(II)I" } : Jvm.MethodName)) ∈ zWs := kw_of 691 (by decide +kernel) rfl
theorem kw_693 : (Jvm.Cond.instanceMethod ({ cls := "StarLessModel", name := "pleasedBy", desc := "(II)I" } : Jvm.MethodName)) ∈ zWs := kw_of 693 (by decide +kernel) rfl
theorem kw_694 : (Jvm.Cond.code ({ cls := "StarLessModel", name := "pleasedBy", desc := "(II)I" } : Jvm.MethodName) prog_9_method_19_code (5 : Nat) (Option.some Jvm.ClassFile.FieldType.int)) ∈ zWs := kw_of 694 (by decide +kernel) rfl
theorem kw_695 : (Jvm.Cond.methodLink "StarLessLaw" (31 : Nat) ({ cls := "StarLessModel", name := "strict", desc := "(I)I" } : Jvm.MethodName)) ∈ zWs := kw_of 695 (by decide +kernel) rfl
theorem kw_696 : (Jvm.Cond.instanceMethod ({ cls := "StarLessModel", name := "strict", desc := "(I)I" } : Jvm.MethodName)) ∈ zWs := kw_of 696 (by decide +kernel) rfl
theorem kw_697 : (Jvm.Cond.selects "StarLessModel" ({ cls := "StarLessModel", name := "strict", desc := "(I)I" } : Jvm.MethodName) ({ cls := "StarLessModel", name := "strict", desc := "(I)I" } : Jvm.MethodName)) ∈ zWs := kw_of 697 (by decide +kernel) rfl
theorem kw_698 : (Jvm.Cond.code ({ cls := "StarLessModel", name := "strict", desc := "(I)I" } : Jvm.MethodName) prog_9_method_24_code (3 : Nat) (Option.some Jvm.ClassFile.FieldType.int)) ∈ zWs := kw_of 698 (by decide +kernel) rfl
theorem kw_699 : (Jvm.Cond.constantLong "StarLessModel" (163 : Nat) (9 : Int64)) ∈ zWs := kw_of 699 (by decide +kernel) rfl
theorem kw_700 : (Jvm.Cond.methodLink "StarLessLaw" (35 : Nat) ({ cls := "StarLessModel", name := "stars", desc := "(I)I" } : Jvm.MethodName)) ∈ zWs := kw_of 700 (by decide +kernel) rfl
theorem kw_701 : (Jvm.Cond.instanceMethod ({ cls := "StarLessModel", name := "stars", desc := "(I)I" } : Jvm.MethodName)) ∈ zWs := kw_of 701 (by decide +kernel) rfl
theorem kw_702 : (Jvm.Cond.selects "StarLessModel" ({ cls := "StarLessModel", name := "stars", desc := "(I)I" } : Jvm.MethodName) ({ cls := "StarLessModel", name := "stars", desc := "(I)I" } : Jvm.MethodName)) ∈ zWs := kw_of 702 (by decide +kernel) rfl
theorem kw_703 : (Jvm.Cond.code ({ cls := "StarLessModel", name := "stars", desc := "(I)I" } : Jvm.MethodName) prog_9_method_25_code (3 : Nat) (Option.some Jvm.ClassFile.FieldType.int)) ∈ zWs := kw_of 703 (by decide +kernel) rfl
theorem kw_704 : (Jvm.Cond.constantLong "StarLessModel" (165 : Nat) (5 : Int64)) ∈ zWs := kw_of 704 (by decide +kernel) rfl
theorem kw_705 : (Jvm.Cond.methodLink "StarLessLaw" (39 : Nat) ({ cls := "StarLessModel", name := "pleased", desc := "(II)I" } : Jvm.MethodName)) ∈ zWs := kw_of 705 (by decide +kernel) rfl
theorem kw_706 : (Jvm.Cond.instanceMethod ({ cls := "StarLessModel", name := "pleased", desc := "(II)I" } : Jvm.MethodName)) ∈ zWs := kw_of 706 (by decide +kernel) rfl
theorem kw_707 : (Jvm.Cond.selects "StarLessModel" ({ cls := "StarLessModel", name := "pleased", desc := "(II)I" } : Jvm.MethodName) ({ cls := "StarLessModel", name := "pleased", desc := "(II)I" } : Jvm.MethodName)) ∈ zWs := kw_of 707 (by decide +kernel) rfl
theorem kw_708 : (Jvm.Cond.code ({ cls := "StarLessModel", name := "pleased", desc := "(II)I" } : Jvm.MethodName) prog_9_method_26_code (3 : Nat) (Option.some Jvm.ClassFile.FieldType.int)) ∈ zWs := kw_of 708 (by decide +kernel) rfl
theorem kw_709 : (Jvm.Cond.methodLink "StarLessLaw" (44 : Nat) ({ cls := "StarLessModel", name := "season", desc := "(IIIIII)I" } : Jvm.MethodName)) ∈ zWs := kw_of 709 (by decide +kernel) rfl
theorem kw_710 : (Jvm.Cond.instanceMethod ({ cls := "StarLessModel", name := "season", desc := "(IIIIII)I" } : Jvm.MethodName)) ∈ zWs := kw_of 710 (by decide +kernel) rfl
theorem kw_711 : (Jvm.Cond.selects "StarLessModel" ({ cls := "StarLessModel", name := "season", desc := "(IIIIII)I" } : Jvm.MethodName) ({ cls := "StarLessModel", name := "season", desc := "(IIIIII)I" } : Jvm.MethodName)) ∈ zWs := kw_of 711 (by decide +kernel) rfl
theorem kw_712 : (Jvm.Cond.code ({ cls := "StarLessModel", name := "season", desc := "(IIIIII)I" } : Jvm.MethodName) prog_9_method_29_code (8 : Nat) (Option.some Jvm.ClassFile.FieldType.int)) ∈ zWs := kw_of 712 (by decide +kernel) rfl
theorem kw_713 : (Jvm.Cond.constantLong "StarLessModel" (182 : Nat) (20 : Int64)) ∈ zWs := kw_of 713 (by decide +kernel) rfl
theorem kw_714 : (Jvm.Cond.constantLong "StarLessModel" (184 : Nat) (4 : Int64)) ∈ zWs := kw_of 714 (by decide +kernel) rfl
theorem kw_715 : (Jvm.Cond.methodLink "StarLessModel" (186 : Nat) ({ cls := "StarLessModel", name := "pairsBarred", desc := "(IIII)I" } : Jvm.MethodName)) ∈ zWs := kw_of 715 (by decide +kernel) rfl
theorem kw_717 : (Jvm.Cond.instanceMethod ({ cls := "StarLessModel", name := "pairsBarred", desc := "(IIII)I" } : Jvm.MethodName)) ∈ zWs := kw_of 717 (by decide +kernel) rfl
theorem kw_718 : (Jvm.Cond.code ({ cls := "StarLessModel", name := "pairsBarred", desc := "(IIII)I" } : Jvm.MethodName) prog_9_method_28_code (8 : Nat) (Option.some Jvm.ClassFile.FieldType.int)) ∈ zWs := kw_of 718 (by decide +kernel) rfl
theorem kw_719 : (Jvm.Cond.methodLink "StarLessModel" (189 : Nat) ({ cls := "StarLessModel", name := "goSeason", desc := "(III)V" } : Jvm.MethodName)) ∈ zWs := kw_of 719 (by decide +kernel) rfl
theorem kw_721 : (Jvm.Cond.instanceMethod ({ cls := "StarLessModel", name := "goSeason", desc := "(III)V" } : Jvm.MethodName)) ∈ zWs := kw_of 721 (by decide +kernel) rfl
theorem kw_722 : (Jvm.Cond.code ({ cls := "StarLessModel", name := "goSeason", desc := "(III)V" } : Jvm.MethodName) prog_9_method_27_code (8 : Nat) (Option.none : Option Jvm.ClassFile.FieldType)) ∈ zWs := kw_of 722 (by decide +kernel) rfl
theorem kw_723 : (Jvm.Cond.methodLink "StarLessLaw" (49 : Nat) ({ cls := "StarLessModel", name := "may", desc := "(IIIII)I" } : Jvm.MethodName)) ∈ zWs := kw_of 723 (by decide +kernel) rfl
theorem kw_724 : (Jvm.Cond.instanceMethod ({ cls := "StarLessModel", name := "may", desc := "(IIIII)I" } : Jvm.MethodName)) ∈ zWs := kw_of 724 (by decide +kernel) rfl
theorem kw_725 : (Jvm.Cond.selects "StarLessModel" ({ cls := "StarLessModel", name := "may", desc := "(IIIII)I" } : Jvm.MethodName) ({ cls := "StarLessModel", name := "may", desc := "(IIIII)I" } : Jvm.MethodName)) ∈ zWs := kw_of 725 (by decide +kernel) rfl
theorem kw_726 : (Jvm.Cond.code ({ cls := "StarLessModel", name := "may", desc := "(IIIII)I" } : Jvm.MethodName) prog_9_method_31_code (8 : Nat) (Option.some Jvm.ClassFile.FieldType.int)) ∈ zWs := kw_of 726 (by decide +kernel) rfl
theorem kw_727 : (Jvm.Cond.methodLink "StarLessModel" (193 : Nat) ({ cls := "StarLessModel", name := "endingWith", desc := "(IIII)I" } : Jvm.MethodName)) ∈ zWs := kw_of 727 (by decide +kernel) rfl
theorem kw_729 : (Jvm.Cond.instanceMethod ({ cls := "StarLessModel", name := "endingWith", desc := "(IIII)I" } : Jvm.MethodName)) ∈ zWs := kw_of 729 (by decide +kernel) rfl
theorem kw_730 : (Jvm.Cond.code ({ cls := "StarLessModel", name := "endingWith", desc := "(IIII)I" } : Jvm.MethodName) prog_9_method_30_code (7 : Nat) (Option.some Jvm.ClassFile.FieldType.int)) ∈ zWs := kw_of 730 (by decide +kernel) rfl
theorem kw_731 : (Jvm.Cond.methodLink "StarLessLaw" (53 : Nat) ({ cls := "StarLessModel", name := "ask", desc := "(I)I" } : Jvm.MethodName)) ∈ zWs := kw_of 731 (by decide +kernel) rfl
theorem kw_732 : (Jvm.Cond.instanceMethod ({ cls := "StarLessModel", name := "ask", desc := "(I)I" } : Jvm.MethodName)) ∈ zWs := kw_of 732 (by decide +kernel) rfl
theorem kw_733 : (Jvm.Cond.selects "StarLessModel" ({ cls := "StarLessModel", name := "ask", desc := "(I)I" } : Jvm.MethodName) ({ cls := "StarLessModel", name := "ask", desc := "(I)I" } : Jvm.MethodName)) ∈ zWs := kw_of 733 (by decide +kernel) rfl
theorem kw_734 : (Jvm.Cond.code ({ cls := "StarLessModel", name := "ask", desc := "(I)I" } : Jvm.MethodName) prog_9_method_32_code (7 : Nat) (Option.some Jvm.ClassFile.FieldType.int)) ∈ zWs := kw_of 734 (by decide +kernel) rfl
theorem kw_735 : (Jvm.Cond.methodLink "StarLessModel" (196 : Nat) ({ cls := "StarLessModel", name := "everybody", desc := "()I" } : Jvm.MethodName)) ∈ zWs := kw_of 735 (by decide +kernel) rfl
theorem kw_737 : (Jvm.Cond.instanceMethod ({ cls := "StarLessModel", name := "everybody", desc := "()I" } : Jvm.MethodName)) ∈ zWs := kw_of 737 (by decide +kernel) rfl
theorem kw_738 : (Jvm.Cond.code ({ cls := "StarLessModel", name := "everybody", desc := "()I" } : Jvm.MethodName) prog_9_method_11_code (1 : Nat) (Option.some Jvm.ClassFile.FieldType.int)) ∈ zWs := kw_of 738 (by decide +kernel) rfl
theorem kw_739 : (Jvm.Cond.methodLink "StarLessModel" (200 : Nat) ({ cls := "StarLessModel", name := "isIn", desc := "(II)Z" } : Jvm.MethodName)) ∈ zWs := kw_of 739 (by decide +kernel) rfl
theorem kw_740 : (Jvm.Cond.static ({ cls := "StarLessModel", name := "isIn", desc := "(II)Z" } : Jvm.MethodName)) ∈ zWs := kw_of 740 (by decide +kernel) rfl
theorem kw_741 : (Jvm.Cond.code ({ cls := "StarLessModel", name := "isIn", desc := "(II)Z" } : Jvm.MethodName) prog_9_method_4_code (2 : Nat) (Option.some Jvm.ClassFile.FieldType.boolean)) ∈ zWs := kw_of 741 (by decide +kernel) rfl
theorem kw_742 : (Jvm.Cond.methodLink "StarLessLaw" (57 : Nat) ({ cls := "StarLessModel", name := "dull", desc := "(I)I" } : Jvm.MethodName)) ∈ zWs := kw_of 742 (by decide +kernel) rfl
theorem kw_743 : (Jvm.Cond.instanceMethod ({ cls := "StarLessModel", name := "dull", desc := "(I)I" } : Jvm.MethodName)) ∈ zWs := kw_of 743 (by decide +kernel) rfl
theorem kw_744 : (Jvm.Cond.selects "StarLessModel" ({ cls := "StarLessModel", name := "dull", desc := "(I)I" } : Jvm.MethodName) ({ cls := "StarLessModel", name := "dull", desc := "(I)I" } : Jvm.MethodName)) ∈ zWs := kw_of 744 (by decide +kernel) rfl
theorem kw_745 : (Jvm.Cond.code ({ cls := "StarLessModel", name := "dull", desc := "(I)I" } : Jvm.MethodName) prog_9_method_33_code (5 : Nat) (Option.some Jvm.ClassFile.FieldType.int)) ∈ zWs := kw_of 745 (by decide +kernel) rfl
theorem kw_746 : (Jvm.Cond.methodLink "StarLessLaw" (61 : Nat) ({ cls := "StarLessModel", name := "fewest", desc := "(I)I" } : Jvm.MethodName)) ∈ zWs := kw_of 746 (by decide +kernel) rfl
theorem kw_747 : (Jvm.Cond.instanceMethod ({ cls := "StarLessModel", name := "fewest", desc := "(I)I" } : Jvm.MethodName)) ∈ zWs := kw_of 747 (by decide +kernel) rfl
theorem kw_748 : (Jvm.Cond.selects "StarLessModel" ({ cls := "StarLessModel", name := "fewest", desc := "(I)I" } : Jvm.MethodName) ({ cls := "StarLessModel", name := "fewest", desc := "(I)I" } : Jvm.MethodName)) ∈ zWs := kw_of 748 (by decide +kernel) rfl
theorem kw_749 : (Jvm.Cond.code ({ cls := "StarLessModel", name := "fewest", desc := "(I)I" } : Jvm.MethodName) prog_9_method_35_code (8 : Nat) (Option.some Jvm.ClassFile.FieldType.int)) ∈ zWs := kw_of 749 (by decide +kernel) rfl
theorem kw_750 : (Jvm.Cond.methodLink "StarLessModel" (212 : Nat) ({ cls := "StarLessModel", name := "layRow", desc := "(I)V" } : Jvm.MethodName)) ∈ zWs := kw_of 750 (by decide +kernel) rfl
theorem kw_752 : (Jvm.Cond.instanceMethod ({ cls := "StarLessModel", name := "layRow", desc := "(I)V" } : Jvm.MethodName)) ∈ zWs := kw_of 752 (by decide +kernel) rfl
theorem kw_753 : (Jvm.Cond.code ({ cls := "StarLessModel", name := "layRow", desc := "(I)V" } : Jvm.MethodName) prog_9_method_34_code (5 : Nat) (Option.none : Option Jvm.ClassFile.FieldType)) ∈ zWs := kw_of 753 (by decide +kernel) rfl
theorem kw_754 : (Jvm.Cond.methodLink "StarLessLaw" (66 : Nat) ({ cls := "StarLessModel", name := "reading", desc := "(IIZ)I" } : Jvm.MethodName)) ∈ zWs := kw_of 754 (by decide +kernel) rfl
theorem kw_755 : (Jvm.Cond.instanceMethod ({ cls := "StarLessModel", name := "reading", desc := "(IIZ)I" } : Jvm.MethodName)) ∈ zWs := kw_of 755 (by decide +kernel) rfl
theorem kw_756 : (Jvm.Cond.selects "StarLessModel" ({ cls := "StarLessModel", name := "reading", desc := "(IIZ)I" } : Jvm.MethodName) ({ cls := "StarLessModel", name := "reading", desc := "(IIZ)I" } : Jvm.MethodName)) ∈ zWs := kw_of 756 (by decide +kernel) rfl
theorem kw_757 : (Jvm.Cond.code ({ cls := "StarLessModel", name := "reading", desc := "(IIZ)I" } : Jvm.MethodName) prog_9_method_36_code (4 : Nat) (Option.some Jvm.ClassFile.FieldType.int)) ∈ zWs := kw_of 757 (by decide +kernel) rfl
theorem kw_758 : (Jvm.Cond.methodLink "StarLessLaw" (70 : Nat) ({ cls := "StarLessModel", name := "back", desc := "(I)I" } : Jvm.MethodName)) ∈ zWs := kw_of 758 (by decide +kernel) rfl
theorem kw_759 : (Jvm.Cond.instanceMethod ({ cls := "StarLessModel", name := "back", desc := "(I)I" } : Jvm.MethodName)) ∈ zWs := kw_of 759 (by decide +kernel) rfl
theorem kw_760 : (Jvm.Cond.selects "StarLessModel" ({ cls := "StarLessModel", name := "back", desc := "(I)I" } : Jvm.MethodName) ({ cls := "StarLessModel", name := "back", desc := "(I)I" } : Jvm.MethodName)) ∈ zWs := kw_of 760 (by decide +kernel) rfl
theorem kw_761 : (Jvm.Cond.code ({ cls := "StarLessModel", name := "back", desc := "(I)I" } : Jvm.MethodName) prog_9_method_37_code (2 : Nat) (Option.some Jvm.ClassFile.FieldType.int)) ∈ zWs := kw_of 761 (by decide +kernel) rfl
theorem kw_762 : (Jvm.Cond.methodLink "StarLessLaw" (75 : Nat) ({ cls := "StarLessModel", name := "limits", desc := "()I" } : Jvm.MethodName)) ∈ zWs := kw_of 762 (by decide +kernel) rfl
theorem kw_763 : (Jvm.Cond.instanceMethod ({ cls := "StarLessModel", name := "limits", desc := "()I" } : Jvm.MethodName)) ∈ zWs := kw_of 763 (by decide +kernel) rfl
theorem kw_764 : (Jvm.Cond.selects "StarLessModel" ({ cls := "StarLessModel", name := "limits", desc := "()I" } : Jvm.MethodName) ({ cls := "StarLessModel", name := "limits", desc := "()I" } : Jvm.MethodName)) ∈ zWs := kw_of 764 (by decide +kernel) rfl
theorem kw_765 : (Jvm.Cond.code ({ cls := "StarLessModel", name := "limits", desc := "()I" } : Jvm.MethodName) prog_9_method_39_code (4 : Nat) (Option.some Jvm.ClassFile.FieldType.int)) ∈ zWs := kw_of 765 (by decide +kernel) rfl
theorem kw_766 : (Jvm.Cond.methodLink "StarLessModel" (216 : Nat) ({ cls := "StarLessModel", name := "areSo", desc := "()Z" } : Jvm.MethodName)) ∈ zWs := kw_of 766 (by decide +kernel) rfl
theorem kw_768 : (Jvm.Cond.instanceMethod ({ cls := "StarLessModel", name := "areSo", desc := "()Z" } : Jvm.MethodName)) ∈ zWs := kw_of 768 (by decide +kernel) rfl
theorem kw_769 : (Jvm.Cond.code ({ cls := "StarLessModel", name := "areSo", desc := "()Z" } : Jvm.MethodName) prog_9_method_38_code (3 : Nat) (Option.some Jvm.ClassFile.FieldType.boolean)) ∈ zWs := kw_of 769 (by decide +kernel) rfl
theorem kw_770 : (Jvm.Cond.methodLink "StarLessLaw" (79 : Nat) ({ cls := "StarLessModel", name := "kinds", desc := "(I)I" } : Jvm.MethodName)) ∈ zWs := kw_of 770 (by decide +kernel) rfl
theorem kw_771 : (Jvm.Cond.instanceMethod ({ cls := "StarLessModel", name := "kinds", desc := "(I)I" } : Jvm.MethodName)) ∈ zWs := kw_of 771 (by decide +kernel) rfl
theorem kw_772 : (Jvm.Cond.selects "StarLessModel" ({ cls := "StarLessModel", name := "kinds", desc := "(I)I" } : Jvm.MethodName) ({ cls := "StarLessModel", name := "kinds", desc := "(I)I" } : Jvm.MethodName)) ∈ zWs := kw_of 772 (by decide +kernel) rfl
theorem kw_773 : (Jvm.Cond.code ({ cls := "StarLessModel", name := "kinds", desc := "(I)I" } : Jvm.MethodName) prog_9_method_40_code (5 : Nat) (Option.some Jvm.ClassFile.FieldType.int)) ∈ zWs := kw_of 773 (by decide +kernel) rfl
theorem kw_774 : (Jvm.Cond.methodLink "StarLessLaw" (83 : Nat) ({ cls := "StarLessModel", name := "tastes", desc := "(I)I" } : Jvm.MethodName)) ∈ zWs := kw_of 774 (by decide +kernel) rfl
theorem kw_775 : (Jvm.Cond.instanceMethod ({ cls := "StarLessModel", name := "tastes", desc := "(I)I" } : Jvm.MethodName)) ∈ zWs := kw_of 775 (by decide +kernel) rfl
theorem kw_776 : (Jvm.Cond.selects "StarLessModel" ({ cls := "StarLessModel", name := "tastes", desc := "(I)I" } : Jvm.MethodName) ({ cls := "StarLessModel", name := "tastes", desc := "(I)I" } : Jvm.MethodName)) ∈ zWs := kw_of 776 (by decide +kernel) rfl
theorem kw_777 : (Jvm.Cond.code ({ cls := "StarLessModel", name := "tastes", desc := "(I)I" } : Jvm.MethodName) prog_9_method_41_code (5 : Nat) (Option.some Jvm.ClassFile.FieldType.int)) ∈ zWs := kw_of 777 (by decide +kernel) rfl
theorem kw_778 : (Jvm.Cond.methodLink "StarLessLaw" (87 : Nat) ({ cls := "StarLessModel", name := "charms", desc := "(I)I" } : Jvm.MethodName)) ∈ zWs := kw_of 778 (by decide +kernel) rfl
theorem kw_779 : (Jvm.Cond.instanceMethod ({ cls := "StarLessModel", name := "charms", desc := "(I)I" } : Jvm.MethodName)) ∈ zWs := kw_of 779 (by decide +kernel) rfl
theorem kw_780 : (Jvm.Cond.selects "StarLessModel" ({ cls := "StarLessModel", name := "charms", desc := "(I)I" } : Jvm.MethodName) ({ cls := "StarLessModel", name := "charms", desc := "(I)I" } : Jvm.MethodName)) ∈ zWs := kw_of 780 (by decide +kernel) rfl
theorem kw_781 : (Jvm.Cond.code ({ cls := "StarLessModel", name := "charms", desc := "(I)I" } : Jvm.MethodName) prog_9_method_42_code (5 : Nat) (Option.some Jvm.ClassFile.FieldType.int)) ∈ zWs := kw_of 781 (by decide +kernel) rfl
theorem kw_782 : (Jvm.Cond.methodLink "StarLessLaw" (92 : Nat) ({ cls := "StarLessModel", name := "odds", desc := "(IIIIII)J" } : Jvm.MethodName)) ∈ zWs := kw_of 782 (by decide +kernel) rfl
theorem kw_783 : (Jvm.Cond.instanceMethod ({ cls := "StarLessModel", name := "odds", desc := "(IIIIII)J" } : Jvm.MethodName)) ∈ zWs := kw_of 783 (by decide +kernel) rfl
theorem kw_784 : (Jvm.Cond.selects "StarLessModel" ({ cls := "StarLessModel", name := "odds", desc := "(IIIIII)J" } : Jvm.MethodName) ({ cls := "StarLessModel", name := "odds", desc := "(IIIIII)J" } : Jvm.MethodName)) ∈ zWs := kw_of 784 (by decide +kernel) rfl
theorem kw_785 : (Jvm.Cond.code ({ cls := "StarLessModel", name := "odds", desc := "(IIIIII)J" } : Jvm.MethodName) prog_9_method_44_code (12 : Nat) (Option.some Jvm.ClassFile.FieldType.long)) ∈ zWs := kw_of 785 (by decide +kernel) rfl
theorem kw_786 : (Jvm.Cond.methodLink "StarLessModel" (220 : Nat) ({ cls := "StarLessModel", name := "refusedLong", desc := "()J" } : Jvm.MethodName)) ∈ zWs := kw_of 786 (by decide +kernel) rfl
theorem kw_788 : (Jvm.Cond.instanceMethod ({ cls := "StarLessModel", name := "refusedLong", desc := "()J" } : Jvm.MethodName)) ∈ zWs := kw_of 788 (by decide +kernel) rfl
theorem kw_789 : (Jvm.Cond.code ({ cls := "StarLessModel", name := "refusedLong", desc := "()J" } : Jvm.MethodName) prog_9_method_43_code (1 : Nat) (Option.some Jvm.ClassFile.FieldType.long)) ∈ zWs := kw_of 789 (by decide +kernel) rfl
theorem kw_790 : (Jvm.Cond.methodLink "StarLessModel" (71 : Nat) ({ cls := "StarLessModel", name := "lost", desc := "()J" } : Jvm.MethodName)) ∈ zWs := kw_of 790 (by decide +kernel) rfl
theorem kw_791 : (Jvm.Cond.static ({ cls := "StarLessModel", name := "lost", desc := "()J" } : Jvm.MethodName)) ∈ zWs := kw_of 791 (by decide +kernel) rfl
theorem kw_792 : (Jvm.Cond.code ({ cls := "StarLessModel", name := "lost", desc := "()J" } : Jvm.MethodName) prog_9_method_3_code (0 : Nat) (Option.some Jvm.ClassFile.FieldType.long)) ∈ zWs := kw_of 792 (by decide +kernel) rfl
theorem kw_793 : (Jvm.Cond.constantLong "StarLessModel" (65 : Nat) (-9223372036854775808 : Int64)) ∈ zWs := kw_of 793 (by decide +kernel) rfl
theorem kw_794 : (Jvm.Cond.methodLink "StarLessModel" (223 : Nat) ({ cls := "StarLessModel", name := "share", desc := "(JJI)J" } : Jvm.MethodName)) ∈ zWs := kw_of 794 (by decide +kernel) rfl
theorem kw_795 : (Jvm.Cond.static ({ cls := "StarLessModel", name := "share", desc := "(JJI)J" } : Jvm.MethodName)) ∈ zWs := kw_of 795 (by decide +kernel) rfl
theorem kw_796 : (Jvm.Cond.code ({ cls := "StarLessModel", name := "share", desc := "(JJI)J" } : Jvm.MethodName) prog_9_method_5_code (11 : Nat) (Option.some Jvm.ClassFile.FieldType.long)) ∈ zWs := kw_of 796 (by decide +kernel) rfl
theorem kw_797 : (Jvm.Cond.methodLink "StarLessLaw" (97 : Nat) ({ cls := "StarLessModel", name := "sheet", desc := "(III)I" } : Jvm.MethodName)) ∈ zWs := kw_of 797 (by decide +kernel) rfl
theorem kw_798 : (Jvm.Cond.instanceMethod ({ cls := "StarLessModel", name := "sheet", desc := "(III)I" } : Jvm.MethodName)) ∈ zWs := kw_of 798 (by decide +kernel) rfl
theorem kw_799 : (Jvm.Cond.selects "StarLessModel" ({ cls := "StarLessModel", name := "sheet", desc := "(III)I" } : Jvm.MethodName) ({ cls := "StarLessModel", name := "sheet", desc := "(III)I" } : Jvm.MethodName)) ∈ zWs := kw_of 799 (by decide +kernel) rfl
theorem kw_800 : (Jvm.Cond.code ({ cls := "StarLessModel", name := "sheet", desc := "(III)I" } : Jvm.MethodName) prog_9_method_46_code (5 : Nat) (Option.some Jvm.ClassFile.FieldType.int)) ∈ zWs := kw_of 800 (by decide +kernel) rfl
theorem kw_801 : (Jvm.Cond.methodLink "StarLessLaw" (101 : Nat) ({ cls := "StarLessModel", name := "lose", desc := "(I)I" } : Jvm.MethodName)) ∈ zWs := kw_of 801 (by decide +kernel) rfl
theorem kw_802 : (Jvm.Cond.instanceMethod ({ cls := "StarLessModel", name := "lose", desc := "(I)I" } : Jvm.MethodName)) ∈ zWs := kw_of 802 (by decide +kernel) rfl
theorem kw_803 : (Jvm.Cond.selects "StarLessModel" ({ cls := "StarLessModel", name := "lose", desc := "(I)I" } : Jvm.MethodName) ({ cls := "StarLessModel", name := "lose", desc := "(I)I" } : Jvm.MethodName)) ∈ zWs := kw_of 803 (by decide +kernel) rfl
theorem kw_804 : (Jvm.Cond.code ({ cls := "StarLessModel", name := "lose", desc := "(I)I" } : Jvm.MethodName) prog_9_method_47_code (3 : Nat) (Option.some Jvm.ClassFile.FieldType.int)) ∈ zWs := kw_of 804 (by decide +kernel) rfl
theorem kw_805 : (Jvm.Cond.methodLink "StarLessLaw" (105 : Nat) ({ cls := "StarLessModel", name := "put", desc := "(III)I" } : Jvm.MethodName)) ∈ zWs := kw_of 805 (by decide +kernel) rfl
theorem kw_806 : (Jvm.Cond.instanceMethod ({ cls := "StarLessModel", name := "put", desc := "(III)I" } : Jvm.MethodName)) ∈ zWs := kw_of 806 (by decide +kernel) rfl
theorem kw_807 : (Jvm.Cond.selects "StarLessModel" ({ cls := "StarLessModel", name := "put", desc := "(III)I" } : Jvm.MethodName) ({ cls := "StarLessModel", name := "put", desc := "(III)I" } : Jvm.MethodName)) ∈ zWs := kw_of 807 (by decide +kernel) rfl
theorem kw_808 : (Jvm.Cond.code ({ cls := "StarLessModel", name := "put", desc := "(III)I" } : Jvm.MethodName) prog_9_method_49_code (4 : Nat) (Option.some Jvm.ClassFile.FieldType.int)) ∈ zWs := kw_of 808 (by decide +kernel) rfl
theorem kw_809 : (Jvm.Cond.methodLink "StarLessModel" (229 : Nat) ({ cls := "StarLessModel", name := "noCell", desc := "(II)I" } : Jvm.MethodName)) ∈ zWs := kw_of 809 (by decide +kernel) rfl
theorem kw_811 : (Jvm.Cond.instanceMethod ({ cls := "StarLessModel", name := "noCell", desc := "(II)I" } : Jvm.MethodName)) ∈ zWs := kw_of 811 (by decide +kernel) rfl
theorem kw_812 : (Jvm.Cond.code ({ cls := "StarLessModel", name := "noCell", desc := "(II)I" } : Jvm.MethodName) prog_9_method_48_code (3 : Nat) (Option.some Jvm.ClassFile.FieldType.int)) ∈ zWs := kw_of 812 (by decide +kernel) rfl
theorem kw_813 : (Jvm.Cond.methodLink "StarLessLaw" (110 : Nat) ({ cls := "StarLessModel", name := "cell", desc := "(III)J" } : Jvm.MethodName)) ∈ zWs := kw_of 813 (by decide +kernel) rfl
theorem kw_814 : (Jvm.Cond.instanceMethod ({ cls := "StarLessModel", name := "cell", desc := "(III)J" } : Jvm.MethodName)) ∈ zWs := kw_of 814 (by decide +kernel) rfl
theorem kw_815 : (Jvm.Cond.selects "StarLessModel" ({ cls := "StarLessModel", name := "cell", desc := "(III)J" } : Jvm.MethodName) ({ cls := "StarLessModel", name := "cell", desc := "(III)J" } : Jvm.MethodName)) ∈ zWs := kw_of 815 (by decide +kernel) rfl
theorem kw_816 : (Jvm.Cond.code ({ cls := "StarLessModel", name := "cell", desc := "(III)J" } : Jvm.MethodName) prog_9_method_50_code (4 : Nat) (Option.some Jvm.ClassFile.FieldType.long)) ∈ zWs := kw_of 816 (by decide +kernel) rfl
theorem kw_817 : (Jvm.Cond.methodLink "StarLessModel" (232 : Nat) ({ cls := "StarLessModel", name := "failedLong", desc := "(I)J" } : Jvm.MethodName)) ∈ zWs := kw_of 817 (by decide +kernel) rfl
theorem kw_819 : (Jvm.Cond.instanceMethod ({ cls := "StarLessModel", name := "failedLong", desc := "(I)J" } : Jvm.MethodName)) ∈ zWs := kw_of 819 (by decide +kernel) rfl
theorem kw_820 : (Jvm.Cond.code ({ cls := "StarLessModel", name := "failedLong", desc := "(I)J" } : Jvm.MethodName) prog_9_method_8_code (2 : Nat) (Option.some Jvm.ClassFile.FieldType.long)) ∈ zWs := kw_of 820 (by decide +kernel) rfl
theorem kw_821 : (Jvm.Cond.methodLink "StarLessLaw" (114 : Nat) ({ cls := "StarLessModel", name := "copy", desc := "(IIIII)I" } : Jvm.MethodName)) ∈ zWs := kw_of 821 (by decide +kernel) rfl
theorem kw_822 : (Jvm.Cond.instanceMethod ({ cls := "StarLessModel", name := "copy", desc := "(IIIII)I" } : Jvm.MethodName)) ∈ zWs := kw_of 822 (by decide +kernel) rfl
theorem kw_823 : (Jvm.Cond.selects "StarLessModel" ({ cls := "StarLessModel", name := "copy", desc := "(IIIII)I" } : Jvm.MethodName) ({ cls := "StarLessModel", name := "copy", desc := "(IIIII)I" } : Jvm.MethodName)) ∈ zWs := kw_of 823 (by decide +kernel) rfl
theorem kw_824 : (Jvm.Cond.code ({ cls := "StarLessModel", name := "copy", desc := "(IIIII)I" } : Jvm.MethodName) prog_9_method_52_code (7 : Nat) (Option.some Jvm.ClassFile.FieldType.int)) ∈ zWs := kw_of 824 (by decide +kernel) rfl
theorem kw_825 : (Jvm.Cond.methodLink "StarLessLaw" (118 : Nat) ({ cls := "StarLessModel", name := "tell", desc := "(I)I" } : Jvm.MethodName)) ∈ zWs := kw_of 825 (by decide +kernel) rfl
theorem kw_826 : (Jvm.Cond.instanceMethod ({ cls := "StarLessModel", name := "tell", desc := "(I)I" } : Jvm.MethodName)) ∈ zWs := kw_of 826 (by decide +kernel) rfl
theorem kw_827 : (Jvm.Cond.selects "StarLessModel" ({ cls := "StarLessModel", name := "tell", desc := "(I)I" } : Jvm.MethodName) ({ cls := "StarLessModel", name := "tell", desc := "(I)I" } : Jvm.MethodName)) ∈ zWs := kw_of 827 (by decide +kernel) rfl
theorem kw_828 : (Jvm.Cond.code ({ cls := "StarLessModel", name := "tell", desc := "(I)I" } : Jvm.MethodName) prog_9_method_54_code (4 : Nat) (Option.some Jvm.ClassFile.FieldType.int)) ∈ zWs := kw_of 828 (by decide +kernel) rfl
theorem kw_829 : (Jvm.Cond.methodLink "StarLessModel" (239 : Nat) ({ cls := "StarLessModel", name := "traced", desc := "(I)V" } : Jvm.MethodName)) ∈ zWs := kw_of 829 (by decide +kernel) rfl
theorem kw_831 : (Jvm.Cond.instanceMethod ({ cls := "StarLessModel", name := "traced", desc := "(I)V" } : Jvm.MethodName)) ∈ zWs := kw_of 831 (by decide +kernel) rfl
theorem kw_832 : (Jvm.Cond.code ({ cls := "StarLessModel", name := "traced", desc := "(I)V" } : Jvm.MethodName) prog_9_method_53_code (2 : Nat) (Option.none : Option Jvm.ClassFile.FieldType)) ∈ zWs := kw_of 832 (by decide +kernel) rfl
theorem kw_833 : (Jvm.Cond.methodLink "StarLessLaw" (122 : Nat) ({ cls := "StarLessModel", name := "greet", desc := "(I)I" } : Jvm.MethodName)) ∈ zWs := kw_of 833 (by decide +kernel) rfl
theorem kw_834 : (Jvm.Cond.instanceMethod ({ cls := "StarLessModel", name := "greet", desc := "(I)I" } : Jvm.MethodName)) ∈ zWs := kw_of 834 (by decide +kernel) rfl
theorem kw_835 : (Jvm.Cond.selects "StarLessModel" ({ cls := "StarLessModel", name := "greet", desc := "(I)I" } : Jvm.MethodName) ({ cls := "StarLessModel", name := "greet", desc := "(I)I" } : Jvm.MethodName)) ∈ zWs := kw_of 835 (by decide +kernel) rfl
theorem kw_836 : (Jvm.Cond.code ({ cls := "StarLessModel", name := "greet", desc := "(I)I" } : Jvm.MethodName) prog_9_method_55_code (2 : Nat) (Option.some Jvm.ClassFile.FieldType.int)) ∈ zWs := kw_of 836 (by decide +kernel) rfl
theorem kw_837 : (Jvm.Cond.methodLink "StarLessLaw" (126 : Nat) ({ cls := "StarLessModel", name := "as", desc := "(II)I" } : Jvm.MethodName)) ∈ zWs := kw_of 837 (by decide +kernel) rfl
theorem kw_838 : (Jvm.Cond.instanceMethod ({ cls := "StarLessModel", name := "as", desc := "(II)I" } : Jvm.MethodName)) ∈ zWs := kw_of 838 (by decide +kernel) rfl
theorem kw_839 : (Jvm.Cond.selects "StarLessModel" ({ cls := "StarLessModel", name := "as", desc := "(II)I" } : Jvm.MethodName) ({ cls := "StarLessModel", name := "as", desc := "(II)I" } : Jvm.MethodName)) ∈ zWs := kw_of 839 (by decide +kernel) rfl
theorem kw_840 : (Jvm.Cond.code ({ cls := "StarLessModel", name := "as", desc := "(II)I" } : Jvm.MethodName) prog_9_method_56_code (3 : Nat) (Option.some Jvm.ClassFile.FieldType.int)) ∈ zWs := kw_of 840 (by decide +kernel) rfl
theorem kw_841 : (Jvm.Cond.methodLink "StarLessLaw" (130 : Nat) ({ cls := "StarLessModel", name := "trace", desc := "()I" } : Jvm.MethodName)) ∈ zWs := kw_of 841 (by decide +kernel) rfl
theorem kw_842 : (Jvm.Cond.instanceMethod ({ cls := "StarLessModel", name := "trace", desc := "()I" } : Jvm.MethodName)) ∈ zWs := kw_of 842 (by decide +kernel) rfl
theorem kw_843 : (Jvm.Cond.selects "StarLessModel" ({ cls := "StarLessModel", name := "trace", desc := "()I" } : Jvm.MethodName) ({ cls := "StarLessModel", name := "trace", desc := "()I" } : Jvm.MethodName)) ∈ zWs := kw_of 843 (by decide +kernel) rfl
theorem kw_844 : (Jvm.Cond.code ({ cls := "StarLessModel", name := "trace", desc := "()I" } : Jvm.MethodName) prog_9_method_57_code (1 : Nat) (Option.some Jvm.ClassFile.FieldType.int)) ∈ zWs := kw_of 844 (by decide +kernel) rfl
theorem kw_845 : (Jvm.Cond.methodLink "StarLessLaw" (134 : Nat) ({ cls := "StarLessModel", name := "fault", desc := "()I" } : Jvm.MethodName)) ∈ zWs := kw_of 845 (by decide +kernel) rfl
theorem kw_846 : (Jvm.Cond.instanceMethod ({ cls := "StarLessModel", name := "fault", desc := "()I" } : Jvm.MethodName)) ∈ zWs := kw_of 846 (by decide +kernel) rfl
theorem kw_847 : (Jvm.Cond.selects "StarLessModel" ({ cls := "StarLessModel", name := "fault", desc := "()I" } : Jvm.MethodName) ({ cls := "StarLessModel", name := "fault", desc := "()I" } : Jvm.MethodName)) ∈ zWs := kw_of 847 (by decide +kernel) rfl
theorem kw_848 : (Jvm.Cond.code ({ cls := "StarLessModel", name := "fault", desc := "()I" } : Jvm.MethodName) prog_9_method_58_code (1 : Nat) (Option.some Jvm.ClassFile.FieldType.int)) ∈ zWs := kw_of 848 (by decide +kernel) rfl
theorem kw_849 : (Jvm.Cond.methodLink "StarLessLaw" (138 : Nat) ({ cls := "StarLessModel", name := "many", desc := "(I)I" } : Jvm.MethodName)) ∈ zWs := kw_of 849 (by decide +kernel) rfl
theorem kw_850 : (Jvm.Cond.instanceMethod ({ cls := "StarLessModel", name := "many", desc := "(I)I" } : Jvm.MethodName)) ∈ zWs := kw_of 850 (by decide +kernel) rfl
theorem kw_851 : (Jvm.Cond.selects "StarLessModel" ({ cls := "StarLessModel", name := "many", desc := "(I)I" } : Jvm.MethodName) ({ cls := "StarLessModel", name := "many", desc := "(I)I" } : Jvm.MethodName)) ∈ zWs := kw_of 851 (by decide +kernel) rfl
theorem kw_852 : (Jvm.Cond.code ({ cls := "StarLessModel", name := "many", desc := "(I)I" } : Jvm.MethodName) prog_9_method_59_code (2 : Nat) (Option.some Jvm.ClassFile.FieldType.int)) ∈ zWs := kw_of 852 (by decide +kernel) rfl
theorem ks_0 : Cond.selects "StarLess$Sheets" ⟨"StarLess$Sheets", "isSheet", "(I)Z"⟩ ⟨"StarLess$Sheets", "isSheet", "(I)Z"⟩ ∈ zWs := ks_of (q := (⟨"StarLess$Sheets", "isSheet", "(I)Z"⟩, 4)) 0 (by decide +kernel) rfl
theorem ks_1 : Cond.selects "StarLess$Sheets" ⟨"StarLess$Sheets", "faultAsRow", "(II)I"⟩ ⟨"StarLess$Sheets", "faultAsRow", "(II)I"⟩ ∈ zWs := ks_of (q := (⟨"StarLess$Sheets", "faultAsRow", "(II)I"⟩, 4)) 1 (by decide +kernel) rfl
theorem ks_2 : Cond.selects "StarLess" ⟨"StarLess", "faulty", "(I)I"⟩ ⟨"StarLess", "faulty", "(I)I"⟩ ∈ zWs := ks_of (q := (⟨"StarLess", "faulty", "(I)I"⟩, 8)) 2 (by decide +kernel) rfl
theorem ks_3 : Cond.selects "StarLess$Sheets" ⟨"StarLess$Sheets", "spans", "(III)Z"⟩ ⟨"StarLess$Sheets", "spans", "(III)Z"⟩ ∈ zWs := ks_of (q := (⟨"StarLess$Sheets", "spans", "(III)Z"⟩, 4)) 3 (by decide +kernel) rfl
theorem ks_4 : Cond.selects "StarLess$Text" ⟨"StarLess$Text", "isOne", "([III)Z"⟩ ⟨"StarLess$Text", "isOne", "([III)Z"⟩ ∈ zWs := ks_of (q := (⟨"StarLess$Text", "isOne", "([III)Z"⟩, 6)) 4 (by decide +kernel) rfl
theorem ks_5 : Cond.selects "StarLess$Text" ⟨"StarLess$Text", "next", "(II)Z"⟩ ⟨"StarLess$Text", "next", "(II)Z"⟩ ∈ zWs := ks_of (q := (⟨"StarLess$Text", "next", "(II)Z"⟩, 6)) 5 (by decide +kernel) rfl
theorem ks_6 : Cond.selects "StarLess$Text" ⟨"StarLess$Text", "areDoings", "()Z"⟩ ⟨"StarLess$Text", "areDoings", "()Z"⟩ ∈ zWs := ks_of (q := (⟨"StarLess$Text", "areDoings", "()Z"⟩, 6)) 6 (by decide +kernel) rfl
theorem ks_7 : Cond.selects "StarLess$Text" ⟨"StarLess$Text", "areGuests", "()Z"⟩ ⟨"StarLess$Text", "areGuests", "()Z"⟩ ∈ zWs := ks_of (q := (⟨"StarLess$Text", "areGuests", "()Z"⟩, 6)) 7 (by decide +kernel) rfl
theorem ks_8 : Cond.selects "StarLess$Text" ⟨"StarLess$Text", "isLetter", "()Z"⟩ ⟨"StarLess$Text", "isLetter", "()Z"⟩ ∈ zWs := ks_of (q := (⟨"StarLess$Text", "isLetter", "()Z"⟩, 6)) 8 (by decide +kernel) rfl
theorem ks_9 : Cond.selects "StarLess$House" ⟨"StarLess$House", "open", "([IIII)V"⟩ ⟨"StarLess$House", "open", "([IIII)V"⟩ ∈ zWs := ks_of (q := (⟨"StarLess$House", "open", "([IIII)V"⟩, 9)) 9 (by decide +kernel) rfl
theorem ks_10 : Cond.selects "StarLess$House" ⟨"StarLess$House", "isGuest", "(I)Z"⟩ ⟨"StarLess$House", "isGuest", "(I)Z"⟩ ∈ zWs := ks_of (q := (⟨"StarLess$House", "isGuest", "(I)Z"⟩, 9)) 10 (by decide +kernel) rfl
theorem ks_11 : Cond.selects "StarLess$House" ⟨"StarLess$House", "isDoing", "(I)Z"⟩ ⟨"StarLess$House", "isDoing", "(I)Z"⟩ ∈ zWs := ks_of (q := (⟨"StarLess$House", "isDoing", "(I)Z"⟩, 9)) 11 (by decide +kernel) rfl
theorem ks_12 : Cond.selects "StarLess$House" ⟨"StarLess$House", "wonBy", "(I)I"⟩ ⟨"StarLess$House", "wonBy", "(I)I"⟩ ∈ zWs := ks_of (q := (⟨"StarLess$House", "wonBy", "(I)I"⟩, 9)) 12 (by decide +kernel) rfl
theorem ks_13 : Cond.selects "StarLess$House" ⟨"StarLess$House", "isWon", "(II)Z"⟩ ⟨"StarLess$House", "isWon", "(II)Z"⟩ ∈ zWs := ks_of (q := (⟨"StarLess$House", "isWon", "(II)Z"⟩, 9)) 13 (by decide +kernel) rfl
theorem ks_14 : Cond.selects "StarLess$House" ⟨"StarLess$House", "pleasure", "(II)I"⟩ ⟨"StarLess$House", "pleasure", "(II)I"⟩ ∈ zWs := ks_of (q := (⟨"StarLess$House", "pleasure", "(II)I"⟩, 9)) 14 (by decide +kernel) rfl
theorem ks_15 : Cond.selects "StarLess$House" ⟨"StarLess$House", "isOpen", "()Z"⟩ ⟨"StarLess$House", "isOpen", "()Z"⟩ ∈ zWs := ks_of (q := (⟨"StarLess$House", "isOpen", "()Z"⟩, 9)) 15 (by decide +kernel) rfl
theorem ks_16 : Cond.selects "StarLess" ⟨"StarLess", "refusedPairs", "(IIII)I"⟩ ⟨"StarLess", "refusedPairs", "(IIII)I"⟩ ∈ zWs := ks_of (q := (⟨"StarLess", "refusedPairs", "(IIII)I"⟩, 8)) 16 (by decide +kernel) rfl
theorem ks_17 : Cond.selects "StarLess$Outcome" ⟨"StarLess$Outcome", "live", "(LStarLess$House;[IIII)V"⟩ ⟨"StarLess$Outcome", "live", "(LStarLess$House;[IIII)V"⟩ ∈ zWs := ks_of (q := (⟨"StarLess$Outcome", "live", "(LStarLess$House;[IIII)V"⟩, 5)) 17 (by decide +kernel) rfl
theorem ks_18 : Cond.selects "StarLess$Outcome" ⟨"StarLess$Outcome", "pay", "(LStarLess$House;IIIZ)V"⟩ ⟨"StarLess$Outcome", "pay", "(LStarLess$House;IIIZ)V"⟩ ∈ zWs := ks_of (q := (⟨"StarLess$Outcome", "pay", "(LStarLess$House;IIIZ)V"⟩, 5)) 18 (by decide +kernel) rfl
theorem ks_19 : Cond.selects "StarLess" ⟨"StarLess", "refusedSeason", "(IIIII)I"⟩ ⟨"StarLess", "refusedSeason", "(IIIII)I"⟩ ∈ zWs := ks_of (q := (⟨"StarLess", "refusedSeason", "(IIIII)I"⟩, 8)) 19 (by decide +kernel) rfl
theorem ks_20 : Cond.selects "StarLess$Plan" ⟨"StarLess$Plan", "isMade", "(LStarLess$House;)Z"⟩ ⟨"StarLess$Plan", "isMade", "(LStarLess$House;)Z"⟩ ∈ zWs := ks_of (q := (⟨"StarLess$Plan", "isMade", "(LStarLess$House;)Z"⟩, 3)) 20 (by decide +kernel) rfl
theorem ks_21 : Cond.selects "StarLess$Plan" ⟨"StarLess$Plan", "leastOf", "(LStarLess$House;II)I"⟩ ⟨"StarLess$Plan", "leastOf", "(LStarLess$House;II)I"⟩ ∈ zWs := ks_of (q := (⟨"StarLess$Plan", "leastOf", "(LStarLess$House;II)I"⟩, 3)) 21 (by decide +kernel) rfl
theorem ks_22 : Cond.selects "StarLess$Plan" ⟨"StarLess$Plan", "weight", "(LStarLess$House;III)I"⟩ ⟨"StarLess$Plan", "weight", "(LStarLess$House;III)I"⟩ ∈ zWs := ks_of (q := (⟨"StarLess$Plan", "weight", "(LStarLess$House;III)I"⟩, 3)) 22 (by decide +kernel) rfl
theorem ks_23 : Cond.selects "StarLess$Plan" ⟨"StarLess$Plan", "choose", "(LStarLess$House;)V"⟩ ⟨"StarLess$Plan", "choose", "(LStarLess$House;)V"⟩ ∈ zWs := ks_of (q := (⟨"StarLess$Plan", "choose", "(LStarLess$House;)V"⟩, 3)) 23 (by decide +kernel) rfl
theorem ks_24 : Cond.selects "StarLess$Plan" ⟨"StarLess$Plan", "firstBest", "(LStarLess$House;II)I"⟩ ⟨"StarLess$Plan", "firstBest", "(LStarLess$House;II)I"⟩ ∈ zWs := ks_of (q := (⟨"StarLess$Plan", "firstBest", "(LStarLess$House;II)I"⟩, 3)) 24 (by decide +kernel) rfl
theorem ks_25 : Cond.selects "StarLess$Log" ⟨"StarLess$Log", "add", "(IIZ)I"⟩ ⟨"StarLess$Log", "add", "(IIZ)I"⟩ ∈ zWs := ks_of (q := (⟨"StarLess$Log", "add", "(IIZ)I"⟩, 4)) 25 (by decide +kernel) rfl
theorem ks_26 : Cond.selects "StarLess$Log" ⟨"StarLess$Log", "isSo", "(LStarLess$House;)Z"⟩ ⟨"StarLess$Log", "isSo", "(LStarLess$House;)Z"⟩ ∈ zWs := ks_of (q := (⟨"StarLess$Log", "isSo", "(LStarLess$House;)Z"⟩, 4)) 26 (by decide +kernel) rfl
theorem ks_27 : Cond.selects "StarLess" ⟨"StarLess", "fitting", "([III)I"⟩ ⟨"StarLess", "fitting", "([III)I"⟩ ∈ zWs := ks_of (q := (⟨"StarLess", "fitting", "([III)I"⟩, 8)) 27 (by decide +kernel) rfl
theorem ks_28 : Cond.selects "StarLess$Sheets" ⟨"StarLess$Sheets", "renew", "(III)V"⟩ ⟨"StarLess$Sheets", "renew", "(III)V"⟩ ∈ zWs := ks_of (q := (⟨"StarLess$Sheets", "renew", "(III)V"⟩, 4)) 28 (by decide +kernel) rfl
theorem ks_29 : Cond.selects "StarLess$Sheets" ⟨"StarLess$Sheets", "isCell", "(II)Z"⟩ ⟨"StarLess$Sheets", "isCell", "(II)Z"⟩ ∈ zWs := ks_of (q := (⟨"StarLess$Sheets", "isCell", "(II)Z"⟩, 4)) 29 (by decide +kernel) rfl
theorem ks_30 : Cond.selects "StarLess" ⟨"StarLess", "tellAsPoet", "(I)I"⟩ ⟨"StarLess", "tellAsPoet", "(I)I"⟩ ∈ zWs := ks_of (q := (⟨"StarLess", "tellAsPoet", "(I)I"⟩, 8)) 30 (by decide +kernel) rfl
theorem ks_31 : Cond.selects "StarLess" ⟨"StarLess", "leave", "(I)V"⟩ ⟨"StarLess", "leave", "(I)V"⟩ ∈ zWs := ks_of (q := (⟨"StarLess", "leave", "(I)V"⟩, 8)) 31 (by decide +kernel) rfl
theorem ks_32 : Cond.selects "StarLess" ⟨"StarLess", "tellAsCritic", "(I)I"⟩ ⟨"StarLess", "tellAsCritic", "(I)I"⟩ ∈ zWs := ks_of (q := (⟨"StarLess", "tellAsCritic", "(I)I"⟩, 8)) 32 (by decide +kernel) rfl
theorem ks_33 : Cond.selects "StarLess" ⟨"StarLess", "tellAsGuest", "(I)I"⟩ ⟨"StarLess", "tellAsGuest", "(I)I"⟩ ∈ zWs := ks_of (q := (⟨"StarLess", "tellAsGuest", "(I)I"⟩, 8)) 33 (by decide +kernel) rfl
theorem ks_34 : Cond.selects "StarLessModel" ⟨"StarLessModel", "refused", "(I)I"⟩ ⟨"StarLessModel", "refused", "(I)I"⟩ ∈ zWs := ks_of (q := (⟨"StarLessModel", "refused", "(I)I"⟩, 38)) 34 (by decide +kernel) rfl
theorem ks_35 : Cond.selects "StarLessModel" ⟨"StarLessModel", "cellsBarred", "(IIIJ)I"⟩ ⟨"StarLessModel", "cellsBarred", "(IIIJ)I"⟩ ∈ zWs := ks_of (q := (⟨"StarLessModel", "cellsBarred", "(IIIJ)I"⟩, 38)) 35 (by decide +kernel) rfl
theorem ks_36 : Cond.selects "StarLessModel" ⟨"StarLessModel", "failed", "(I)I"⟩ ⟨"StarLessModel", "failed", "(I)I"⟩ ∈ zWs := ks_of (q := (⟨"StarLessModel", "failed", "(I)I"⟩, 38)) 36 (by decide +kernel) rfl
theorem ks_37 : Cond.selects "StarLessModel" ⟨"StarLessModel", "readsHotel", "(II)Z"⟩ ⟨"StarLessModel", "readsHotel", "(II)Z"⟩ ∈ zWs := ks_of (q := (⟨"StarLessModel", "readsHotel", "(II)Z"⟩, 38)) 37 (by decide +kernel) rfl
theorem ks_38 : Cond.selects "StarLessModel" ⟨"StarLessModel", "codeAt", "(II)I"⟩ ⟨"StarLessModel", "codeAt", "(II)I"⟩ ∈ zWs := ks_of (q := (⟨"StarLessModel", "codeAt", "(II)I"⟩, 38)) 38 (by decide +kernel) rfl
theorem ks_39 : Cond.selects "StarLessModel" ⟨"StarLessModel", "figure", "(IIII)I"⟩ ⟨"StarLessModel", "figure", "(IIII)I"⟩ ∈ zWs := ks_of (q := (⟨"StarLessModel", "figure", "(IIII)I"⟩, 38)) 39 (by decide +kernel) rfl
theorem ks_40 : Cond.selects "StarLessModel" ⟨"StarLessModel", "readsDoing", "(II)Z"⟩ ⟨"StarLessModel", "readsDoing", "(II)Z"⟩ ∈ zWs := ks_of (q := (⟨"StarLessModel", "readsDoing", "(II)Z"⟩, 38)) 40 (by decide +kernel) rfl
theorem ks_41 : Cond.selects "StarLessModel" ⟨"StarLessModel", "readsGuest", "(II)Z"⟩ ⟨"StarLessModel", "readsGuest", "(II)Z"⟩ ∈ zWs := ks_of (q := (⟨"StarLessModel", "readsGuest", "(II)Z"⟩, 38)) 41 (by decide +kernel) rfl
theorem ks_42 : Cond.selects "StarLessModel" ⟨"StarLessModel", "noGuest", "(I)Z"⟩ ⟨"StarLessModel", "noGuest", "(I)Z"⟩ ∈ zWs := ks_of (q := (⟨"StarLessModel", "noGuest", "(I)Z"⟩, 38)) 42 (by decide +kernel) rfl
theorem ks_43 : Cond.selects "StarLessModel" ⟨"StarLessModel", "noDoing", "(I)Z"⟩ ⟨"StarLessModel", "noDoing", "(I)Z"⟩ ∈ zWs := ks_of (q := (⟨"StarLessModel", "noDoing", "(I)Z"⟩, 38)) 43 (by decide +kernel) rfl
theorem ks_44 : Cond.selects "StarLessModel" ⟨"StarLessModel", "losersOf", "(I)I"⟩ ⟨"StarLessModel", "losersOf", "(I)I"⟩ ∈ zWs := ks_of (q := (⟨"StarLessModel", "losersOf", "(I)I"⟩, 38)) 44 (by decide +kernel) rfl
theorem ks_45 : Cond.selects "StarLessModel" ⟨"StarLessModel", "doesLose", "(II)Z"⟩ ⟨"StarLessModel", "doesLose", "(II)Z"⟩ ∈ zWs := ks_of (q := (⟨"StarLessModel", "doesLose", "(II)Z"⟩, 38)) 45 (by decide +kernel) rfl
theorem ks_46 : Cond.selects "StarLessModel" ⟨"StarLessModel", "pleasedBy", "(II)I"⟩ ⟨"StarLessModel", "pleasedBy", "(II)I"⟩ ∈ zWs := ks_of (q := (⟨"StarLessModel", "pleasedBy", "(II)I"⟩, 38)) 46 (by decide +kernel) rfl
theorem ks_47 : Cond.selects "StarLessModel" ⟨"StarLessModel", "pairsBarred", "(IIII)I"⟩ ⟨"StarLessModel", "pairsBarred", "(IIII)I"⟩ ∈ zWs := ks_of (q := (⟨"StarLessModel", "pairsBarred", "(IIII)I"⟩, 38)) 47 (by decide +kernel) rfl
theorem ks_48 : Cond.selects "StarLessModel" ⟨"StarLessModel", "goSeason", "(III)V"⟩ ⟨"StarLessModel", "goSeason", "(III)V"⟩ ∈ zWs := ks_of (q := (⟨"StarLessModel", "goSeason", "(III)V"⟩, 38)) 48 (by decide +kernel) rfl
theorem ks_49 : Cond.selects "StarLessModel" ⟨"StarLessModel", "endingWith", "(IIII)I"⟩ ⟨"StarLessModel", "endingWith", "(IIII)I"⟩ ∈ zWs := ks_of (q := (⟨"StarLessModel", "endingWith", "(IIII)I"⟩, 38)) 49 (by decide +kernel) rfl
theorem ks_50 : Cond.selects "StarLessModel" ⟨"StarLessModel", "everybody", "()I"⟩ ⟨"StarLessModel", "everybody", "()I"⟩ ∈ zWs := ks_of (q := (⟨"StarLessModel", "everybody", "()I"⟩, 38)) 50 (by decide +kernel) rfl
theorem ks_51 : Cond.selects "StarLessModel" ⟨"StarLessModel", "layRow", "(I)V"⟩ ⟨"StarLessModel", "layRow", "(I)V"⟩ ∈ zWs := ks_of (q := (⟨"StarLessModel", "layRow", "(I)V"⟩, 38)) 51 (by decide +kernel) rfl
theorem ks_52 : Cond.selects "StarLessModel" ⟨"StarLessModel", "areSo", "()Z"⟩ ⟨"StarLessModel", "areSo", "()Z"⟩ ∈ zWs := ks_of (q := (⟨"StarLessModel", "areSo", "()Z"⟩, 38)) 52 (by decide +kernel) rfl
theorem ks_53 : Cond.selects "StarLessModel" ⟨"StarLessModel", "refusedLong", "()J"⟩ ⟨"StarLessModel", "refusedLong", "()J"⟩ ∈ zWs := ks_of (q := (⟨"StarLessModel", "refusedLong", "()J"⟩, 38)) 53 (by decide +kernel) rfl
theorem ks_54 : Cond.selects "StarLessModel" ⟨"StarLessModel", "noCell", "(II)I"⟩ ⟨"StarLessModel", "noCell", "(II)I"⟩ ∈ zWs := ks_of (q := (⟨"StarLessModel", "noCell", "(II)I"⟩, 38)) 54 (by decide +kernel) rfl
theorem ks_55 : Cond.selects "StarLessModel" ⟨"StarLessModel", "failedLong", "(I)J"⟩ ⟨"StarLessModel", "failedLong", "(I)J"⟩ ∈ zWs := ks_of (q := (⟨"StarLessModel", "failedLong", "(I)J"⟩, 38)) 55 (by decide +kernel) rfl
theorem ks_56 : Cond.selects "StarLessModel" ⟨"StarLessModel", "traced", "(I)V"⟩ ⟨"StarLessModel", "traced", "(I)V"⟩ ∈ zWs := ks_of (q := (⟨"StarLessModel", "traced", "(I)V"⟩, 38)) 56 (by decide +kernel) rfl
end
section
/-! names: classes, fields, methods -/
def RX0 : String := "StarLess$House"
def TX0 : u_T := fun k => match k with
  | 0 => ("StarLess$House", "stars", "I", false)
  | 1 => ("StarLess$House", "strict", "I", false)
  | 2 => ("StarLess$House", "doings", "I", false)
  | 3 => ("StarLess$House", "guests", "I", false)
  | 4 => ("StarLess$House", "charm", "[I", true)
  | 5 => ("StarLess$House", "cost", "[I", true)
  | 6 => ("StarLess$House", "kind", "[I", true)
  | 7 => ("StarLess$House", "taste", "[I", true)
  | _ => ("StarLess$House", "love", "[I", true)
def tyX0 : Nat → FieldType := fun k => match k with
  | 0 => .int
  | 1 => .int
  | 2 => .int
  | 3 => .int
  | 4 => .array .int
  | 5 => .array .int
  | 6 => .array .int
  | 7 => .array .int
  | _ => .array .int
theorem nmX0 : ∀ a, a < 9 → ∀ b, b < 9 → a ≠ b → (TX0 a).2.1 ≠ (TX0 b).2.1 := by decide +kernel
theorem tyX0_ok : ∀ k, k < 9 → parseFieldDescriptor (TX0 k).2.2.1 = some (tyX0 k) := by decide +kernel
def RX1 : String := "StarLess$Log"
def TX1 : u_T := fun k => match k with
  | 0 => ("StarLess$Log", "guest", "[I", true)
  | 1 => ("StarLess$Log", "doing", "[I", true)
  | 2 => ("StarLess$Log", "lost", "[Z", true)
  | _ => ("StarLess$Log", "size", "I", false)
def tyX1 : Nat → FieldType := fun k => match k with
  | 0 => .array .int
  | 1 => .array .int
  | 2 => .array .boolean
  | _ => .int
theorem nmX1 : ∀ a, a < 4 → ∀ b, b < 4 → a ≠ b → (TX1 a).2.1 ≠ (TX1 b).2.1 := by decide +kernel
theorem tyX1_ok : ∀ k, k < 4 → parseFieldDescriptor (TX1 k).2.2.1 = some (tyX1 k) := by decide +kernel
def RX2 : String := "StarLess$Outcome"
def TX2 : u_T := fun k => match k with
  | 0 => ("StarLess$Outcome", "stars", "I", false)
  | 1 => ("StarLess$Outcome", "wrong", "I", false)
  | 2 => ("StarLess$Outcome", "empty", "I", false)
  | 3 => ("StarLess$Outcome", "left", "I", false)
  | _ => ("StarLess$Outcome", "pleasure", "I", false)
def tyX2 : Nat → FieldType := fun k => match k with
  | 0 => .int
  | 1 => .int
  | 2 => .int
  | 3 => .int
  | _ => .int
theorem nmX2 : ∀ a, a < 5 → ∀ b, b < 5 → a ≠ b → (TX2 a).2.1 ≠ (TX2 b).2.1 := by decide +kernel
theorem tyX2_ok : ∀ k, k < 5 → parseFieldDescriptor (TX2 k).2.2.1 = some (tyX2 k) := by decide +kernel
def RX3 : String := "StarLess$Plan"
def TX3 : u_T := fun k => match k with
  | 0 => ("StarLess$Plan", "least", "[[I", true)
  | 1 => ("StarLess$Plan", "doing", "[I", true)
  | _ => ("StarLess$Plan", "won", "I", false)
def tyX3 : Nat → FieldType := fun k => match k with
  | 0 => .array (.array .int)
  | 1 => .array .int
  | _ => .int
theorem nmX3 : ∀ a, a < 3 → ∀ b, b < 3 → a ≠ b → (TX3 a).2.1 ≠ (TX3 b).2.1 := by decide +kernel
theorem tyX3_ok : ∀ k, k < 3 → parseFieldDescriptor (TX3 k).2.2.1 = some (tyX3 k) := by decide +kernel
def RX4 : String := "StarLess$Sheets"
def TX4 : u_T := fun k => match k with
  | 0 => ("StarLess$Sheets", "rows", "[[I", true)
  | 1 => ("StarLess$Sheets", "there", "[Z", true)
  | 2 => ("StarLess$Sheets", "lanes", "[I", true)
  | _ => ("StarLess$Sheets", "lengths", "[I", true)
def tyX4 : Nat → FieldType := fun k => match k with
  | 0 => .array (.array .int)
  | 1 => .array .boolean
  | 2 => .array .int
  | _ => .array .int
theorem nmX4 : ∀ a, a < 4 → ∀ b, b < 4 → a ≠ b → (TX4 a).2.1 ≠ (TX4 b).2.1 := by decide +kernel
theorem tyX4_ok : ∀ k, k < 4 → parseFieldDescriptor (TX4 k).2.2.1 = some (tyX4 k) := by decide +kernel
def RX5 : String := "StarLess$Text"
def TX5 : u_T := fun k => match k with
  | 0 => ("StarLess$Text", "row", "[I", false)
  | 1 => ("StarLess$Text", "from", "I", false)
  | 2 => ("StarLess$Text", "length", "I", false)
  | 3 => ("StarLess$Text", "place", "I", false)
  | 4 => ("StarLess$Text", "doings", "I", false)
  | _ => ("StarLess$Text", "guests", "I", false)
def tyX5 : Nat → FieldType := fun k => match k with
  | 0 => .array .int
  | 1 => .int
  | 2 => .int
  | 3 => .int
  | 4 => .int
  | _ => .int
theorem nmX5 : ∀ a, a < 6 → ∀ b, b < 6 → a ≠ b → (TX5 a).2.1 ≠ (TX5 b).2.1 := by decide +kernel
theorem tyX5_ok : ∀ k, k < 6 → parseFieldDescriptor (TX5 k).2.2.1 = some (tyX5 k) := by decide +kernel
def RX6 : String := "StarLess"
def TX6 : u_T := fun k => match k with
  | 0 => ("StarLess", "house", "LStarLess$House;", true)
  | 1 => ("StarLess", "sheets", "LStarLess$Sheets;", true)
  | 2 => ("StarLess", "text", "LStarLess$Text;", true)
  | 3 => ("StarLess", "outcome", "LStarLess$Outcome;", true)
  | 4 => ("StarLess", "plan", "LStarLess$Plan;", true)
  | 5 => ("StarLess", "log", "LStarLess$Log;", true)
  | 6 => ("StarLess", "traced", "I", false)
  | _ => ("StarLess", "latestFault", "I", false)
def tyX6 : Nat → FieldType := fun k => match k with
  | 0 => .object "StarLess$House"
  | 1 => .object "StarLess$Sheets"
  | 2 => .object "StarLess$Text"
  | 3 => .object "StarLess$Outcome"
  | 4 => .object "StarLess$Plan"
  | 5 => .object "StarLess$Log"
  | 6 => .int
  | _ => .int
theorem nmX6 : ∀ a, a < 8 → ∀ b, b < 8 → a ≠ b → (TX6 a).2.1 ≠ (TX6 b).2.1 := by decide +kernel
theorem tyX6_ok : ∀ k, k < 8 → parseFieldDescriptor (TX6 k).2.2.1 = some (tyX6 k) := by decide +kernel
def RX7 : String := "StarLessModel"
def TX7 : u_T := fun k => match k with
  | 0 => ("StarLessModel", "fault", "I", false)
  | 1 => ("StarLessModel", "starsNow", "I", false)
  | 2 => ("StarLessModel", "strictNow", "I", false)
  | 3 => ("StarLessModel", "doings", "I", false)
  | 4 => ("StarLessModel", "charmOf", "[I", true)
  | 5 => ("StarLessModel", "costOf", "[I", true)
  | 6 => ("StarLessModel", "guests", "I", false)
  | 7 => ("StarLessModel", "kindOf", "[I", true)
  | 8 => ("StarLessModel", "tasteOf", "[I", true)
  | 9 => ("StarLessModel", "lovesOf", "[I", true)
  | 10 => ("StarLessModel", "readAt", "I", false)
  | 11 => ("StarLessModel", "readStars", "I", false)
  | 12 => ("StarLessModel", "readStrict", "I", false)
  | 13 => ("StarLessModel", "readDoings", "I", false)
  | 14 => ("StarLessModel", "readGuests", "I", false)
  | 15 => ("StarLessModel", "readCharm", "[I", true)
  | 16 => ("StarLessModel", "readCost", "[I", true)
  | 17 => ("StarLessModel", "readKind", "[I", true)
  | 18 => ("StarLessModel", "readTaste", "[I", true)
  | 19 => ("StarLessModel", "readLoves", "[I", true)
  | 20 => ("StarLessModel", "firstWrong", "I", false)
  | 21 => ("StarLessModel", "leftNow", "I", false)
  | 22 => ("StarLessModel", "starsThen", "I", false)
  | 23 => ("StarLessModel", "emptyAt", "I", false)
  | 24 => ("StarLessModel", "pleasure", "I", false)
  | 25 => ("StarLessModel", "doesRow", "[I", true)
  | 26 => ("StarLessModel", "rowCost", "I", false)
  | 27 => ("StarLessModel", "rowLost", "I", false)
  | 28 => ("StarLessModel", "rowPleased", "I", false)
  | 29 => ("StarLessModel", "readings", "I", false)
  | 30 => ("StarLessModel", "readingOf", "[I", true)
  | 31 => ("StarLessModel", "readingBy", "[I", true)
  | 32 => ("StarLessModel", "readingLost", "[Z", true)
  | 33 => ("StarLessModel", "sheetSize", "[I", true)
  | 34 => ("StarLessModel", "sheetLane", "[I", true)
  | 35 => ("StarLessModel", "sheet", "[I", true)
  | 36 => ("StarLessModel", "hands", "[I", true)
  | _ => ("StarLessModel", "traceNow", "I", false)
def tyX7 : Nat → FieldType := fun k => match k with
  | 0 => .int
  | 1 => .int
  | 2 => .int
  | 3 => .int
  | 4 => .array .int
  | 5 => .array .int
  | 6 => .int
  | 7 => .array .int
  | 8 => .array .int
  | 9 => .array .int
  | 10 => .int
  | 11 => .int
  | 12 => .int
  | 13 => .int
  | 14 => .int
  | 15 => .array .int
  | 16 => .array .int
  | 17 => .array .int
  | 18 => .array .int
  | 19 => .array .int
  | 20 => .int
  | 21 => .int
  | 22 => .int
  | 23 => .int
  | 24 => .int
  | 25 => .array .int
  | 26 => .int
  | 27 => .int
  | 28 => .int
  | 29 => .int
  | 30 => .array .int
  | 31 => .array .int
  | 32 => .array .boolean
  | 33 => .array .int
  | 34 => .array .int
  | 35 => .array .int
  | 36 => .array .int
  | _ => .int
theorem nmX7 : ∀ a, a < 38 → ∀ b, b < 38 → a ≠ b → (TX7 a).2.1 ≠ (TX7 b).2.1 := by decide +kernel
theorem tyX7_ok : ∀ k, k < 38 → parseFieldDescriptor (TX7 k).2.2.1 = some (tyX7 k) := by decide +kernel
abbrev zCl : List vw_C := [(RX0, TX0, 9), (RX1, TX1, 4), (RX2, TX2, 5), (RX3, TX3, 3), (RX4, TX4, 4), (RX5, TX5, 6), (RX6, TX6, 8), (RX7, TX7, 38)]
abbrev zK : Type := MethodName × ByteArray × Nat × Option FieldType
def mC_as : zK := (⟨"StarLess", "as", "(II)I"⟩, prog_1_method_27_code, 3, (some FieldType.int))
def mC_ask : zK := (⟨"StarLess", "ask", "(I)I"⟩, prog_1_method_10_code, 6, (some FieldType.int))
def mC_back : zK := (⟨"StarLess", "back", "(I)I"⟩, prog_1_method_14_code, 2, (some FieldType.int))
def mC_cell : zK := (⟨"StarLess", "cell", "(III)J"⟩, prog_1_method_23_code, 4, (some FieldType.long))
def mC_charms : zK := (⟨"StarLess", "charms", "(I)I"⟩, prog_1_method_18_code, 2, (some FieldType.int))
def mC_commonDivisor : zK := (⟨"StarLess", "commonDivisor", "(II)I"⟩, prog_1_method_36_code, 6, (some FieldType.int))
def mC_copy : zK := (⟨"StarLess", "copy", "(IIIII)I"⟩, prog_1_method_24_code, 6, (some FieldType.int))
def mC_cut : zK := (⟨"StarLess", "cut", "(II)I"⟩, prog_1_method_35_code, 2, (some FieldType.int))
def mC_dull : zK := (⟨"StarLess", "dull", "(I)I"⟩, prog_1_method_11_code, 6, (some FieldType.int))
def mC_fault : zK := (⟨"StarLess", "fault", "()I"⟩, prog_1_method_29_code, 1, (some FieldType.int))
def mC_faulty : zK := (⟨"StarLess", "faulty", "(I)I"⟩, prog_1_method_37_code, 2, (some FieldType.int))
def mC_fewest : zK := (⟨"StarLess", "fewest", "(I)I"⟩, prog_1_method_12_code, 2, (some FieldType.int))
def mC_firstOf : zK := (⟨"StarLess", "firstOf", "(I)I"⟩, prog_1_method_34_code, 2, (some FieldType.int))
def mC_fitting : zK := (⟨"StarLess", "fitting", "([III)I"⟩, prog_1_method_40_code, 7, (some FieldType.int))
def mC_greet : zK := (⟨"StarLess", "greet", "(I)I"⟩, prog_1_method_26_code, 2, (some FieldType.int))
def mC_hotel : zK := (⟨"StarLess", "hotel", "(IIII)I"⟩, prog_1_method_2_code, 7, (some FieldType.int))
def mC_init : zK := (⟨"StarLess", "<init>", "()V"⟩, prog_1_method_1_code, 1, (none : Option FieldType))
def mC_isLane : zK := (⟨"StarLess", "isLane", "(I)Z"⟩, prog_1_method_31_code, 1, (some FieldType.boolean))
def mC_isPairs : zK := (⟨"StarLess", "isPairs", "(I)Z"⟩, prog_1_method_32_code, 1, (some FieldType.boolean))
def mC_isStars : zK := (⟨"StarLess", "isStars", "(I)Z"⟩, prog_1_method_33_code, 1, (some FieldType.boolean))
def mC_kinds : zK := (⟨"StarLess", "kinds", "(I)I"⟩, prog_1_method_16_code, 2, (some FieldType.int))
def mC_leave : zK := (⟨"StarLess", "leave", "(I)V"⟩, prog_1_method_41_code, 2, (none : Option FieldType))
def mC_limits : zK := (⟨"StarLess", "limits", "()I"⟩, prog_1_method_15_code, 4, (some FieldType.int))
def mC_lose : zK := (⟨"StarLess", "lose", "(I)I"⟩, prog_1_method_21_code, 3, (some FieldType.int))
def mC_many : zK := (⟨"StarLess", "many", "(I)I"⟩, prog_1_method_30_code, 2, (some FieldType.int))
def mC_may : zK := (⟨"StarLess", "may", "(IIIII)I"⟩, prog_1_method_9_code, 10, (some FieldType.int))
def mC_odds : zK := (⟨"StarLess", "odds", "(IIIIII)J"⟩, prog_1_method_19_code, 10, (some FieldType.long))
def mC_ofDoing : zK := (⟨"StarLess", "ofDoing", "(II)I"⟩, prog_1_method_4_code, 3, (some FieldType.int))
def mC_ofGuest : zK := (⟨"StarLess", "ofGuest", "(II)I"⟩, prog_1_method_3_code, 3, (some FieldType.int))
def mC_pleased : zK := (⟨"StarLess", "pleased", "(II)I"⟩, prog_1_method_7_code, 3, (some FieldType.int))
def mC_put : zK := (⟨"StarLess", "put", "(III)I"⟩, prog_1_method_22_code, 4, (some FieldType.int))
def mC_reading : zK := (⟨"StarLess", "reading", "(IIZ)I"⟩, prog_1_method_13_code, 4, (some FieldType.int))
def mC_refusedPairs : zK := (⟨"StarLess", "refusedPairs", "(IIII)I"⟩, prog_1_method_39_code, 8, (some FieldType.int))
def mC_refusedSeason : zK := (⟨"StarLess", "refusedSeason", "(IIIII)I"⟩, prog_1_method_38_code, 6, (some FieldType.int))
def mC_season : zK := (⟨"StarLess", "season", "(IIIIII)I"⟩, prog_1_method_8_code, 8, (some FieldType.int))
def mC_sheet : zK := (⟨"StarLess", "sheet", "(III)I"⟩, prog_1_method_20_code, 4, (some FieldType.int))
def mC_stars : zK := (⟨"StarLess", "stars", "(I)I"⟩, prog_1_method_6_code, 3, (some FieldType.int))
def mC_strict : zK := (⟨"StarLess", "strict", "(I)I"⟩, prog_1_method_5_code, 3, (some FieldType.int))
def mC_tastes : zK := (⟨"StarLess", "tastes", "(I)I"⟩, prog_1_method_17_code, 2, (some FieldType.int))
def mC_tell : zK := (⟨"StarLess", "tell", "(I)I"⟩, prog_1_method_25_code, 2, (some FieldType.int))
def mC_tellAsCritic : zK := (⟨"StarLess", "tellAsCritic", "(I)I"⟩, prog_1_method_43_code, 2, (some FieldType.int))
def mC_tellAsGuest : zK := (⟨"StarLess", "tellAsGuest", "(I)I"⟩, prog_1_method_42_code, 2, (some FieldType.int))
def mC_tellAsPoet : zK := (⟨"StarLess", "tellAsPoet", "(I)I"⟩, prog_1_method_44_code, 3, (some FieldType.int))
def mC_trace : zK := (⟨"StarLess", "trace", "()I"⟩, prog_1_method_28_code, 1, (some FieldType.int))
def mH_init : zK := (⟨"StarLess$House", "<init>", "()V"⟩, prog_2_method_1_code, 1, (none : Option FieldType))
def mH_isDoing : zK := (⟨"StarLess$House", "isDoing", "(I)Z"⟩, prog_2_method_4_code, 2, (some FieldType.boolean))
def mH_isGuest : zK := (⟨"StarLess$House", "isGuest", "(I)Z"⟩, prog_2_method_3_code, 2, (some FieldType.boolean))
def mH_isOpen : zK := (⟨"StarLess$House", "isOpen", "()Z"⟩, prog_2_method_2_code, 1, (some FieldType.boolean))
def mH_isWon : zK := (⟨"StarLess$House", "isWon", "(II)Z"⟩, prog_2_method_8_code, 3, (some FieldType.boolean))
def mH_kindOf : zK := (⟨"StarLess$House", "kindOf", "(I)I"⟩, prog_2_method_6_code, 1, (some FieldType.int))
def mH_open : zK := (⟨"StarLess$House", "open", "([IIII)V"⟩, prog_2_method_5_code, 7, (none : Option FieldType))
def mH_pleasure : zK := (⟨"StarLess$House", "pleasure", "(II)I"⟩, prog_2_method_7_code, 5, (some FieldType.int))
def mH_wonBy : zK := (⟨"StarLess$House", "wonBy", "(I)I"⟩, prog_2_method_9_code, 4, (some FieldType.int))
def mL_add : zK := (⟨"StarLess$Log", "add", "(IIZ)I"⟩, prog_3_method_2_code, 4, (some FieldType.int))
def mL_init : zK := (⟨"StarLess$Log", "<init>", "()V"⟩, prog_3_method_1_code, 1, (none : Option FieldType))
def mL_isSo : zK := (⟨"StarLess$Log", "isSo", "(LStarLess$House;)Z"⟩, prog_3_method_3_code, 3, (some FieldType.boolean))
def mM_areSo : zK := (⟨"StarLessModel", "areSo", "()Z"⟩, prog_9_method_38_code, 3, (some FieldType.boolean))
def mM_as : zK := (⟨"StarLessModel", "as", "(II)I"⟩, prog_9_method_56_code, 3, (some FieldType.int))
def mM_ask : zK := (⟨"StarLessModel", "ask", "(I)I"⟩, prog_9_method_32_code, 7, (some FieldType.int))
def mM_back : zK := (⟨"StarLessModel", "back", "(I)I"⟩, prog_9_method_37_code, 2, (some FieldType.int))
def mM_cell : zK := (⟨"StarLessModel", "cell", "(III)J"⟩, prog_9_method_50_code, 4, (some FieldType.long))
def mM_cellsBarred : zK := (⟨"StarLessModel", "cellsBarred", "(IIIJ)I"⟩, prog_9_method_17_code, 6, (some FieldType.int))
def mM_charms : zK := (⟨"StarLessModel", "charms", "(I)I"⟩, prog_9_method_42_code, 5, (some FieldType.int))
def mM_codeAt : zK := (⟨"StarLessModel", "codeAt", "(II)I"⟩, prog_9_method_12_code, 3, (some FieldType.int))
def mM_copy : zK := (⟨"StarLessModel", "copy", "(IIIII)I"⟩, prog_9_method_52_code, 7, (some FieldType.int))
def mM_doesLose : zK := (⟨"StarLessModel", "doesLose", "(II)Z"⟩, prog_9_method_20_code, 3, (some FieldType.boolean))
def mM_dull : zK := (⟨"StarLessModel", "dull", "(I)I"⟩, prog_9_method_33_code, 5, (some FieldType.int))
def mM_endingWith : zK := (⟨"StarLessModel", "endingWith", "(IIII)I"⟩, prog_9_method_30_code, 7, (some FieldType.int))
def mM_everybody : zK := (⟨"StarLessModel", "everybody", "()I"⟩, prog_9_method_11_code, 1, (some FieldType.int))
def mM_failed : zK := (⟨"StarLessModel", "failed", "(I)I"⟩, prog_9_method_7_code, 2, (some FieldType.int))
def mM_failedLong : zK := (⟨"StarLessModel", "failedLong", "(I)J"⟩, prog_9_method_8_code, 2, (some FieldType.long))
def mM_fault : zK := (⟨"StarLessModel", "fault", "()I"⟩, prog_9_method_58_code, 1, (some FieldType.int))
def mM_fewest : zK := (⟨"StarLessModel", "fewest", "(I)I"⟩, prog_9_method_35_code, 8, (some FieldType.int))
def mM_figure : zK := (⟨"StarLessModel", "figure", "(IIII)I"⟩, prog_9_method_13_code, 7, (some FieldType.int))
def mM_goSeason : zK := (⟨"StarLessModel", "goSeason", "(III)V"⟩, prog_9_method_27_code, 8, (none : Option FieldType))
def mM_greet : zK := (⟨"StarLessModel", "greet", "(I)I"⟩, prog_9_method_55_code, 2, (some FieldType.int))
def mM_hotel : zK := (⟨"StarLessModel", "hotel", "(IIII)I"⟩, prog_9_method_18_code, 7, (some FieldType.int))
def mM_in : zK := (⟨"StarLessModel", "in", "(JJJ)Z"⟩, prog_9_method_2_code, 6, (some FieldType.boolean))
def mM_init : zK := (⟨"StarLessModel", "<init>", "()V"⟩, prog_9_method_1_code, 2, (none : Option FieldType))
def mM_isBeyond : zK := (⟨"StarLessModel", "isBeyond", "(IJI)Z"⟩, prog_9_method_51_code, 4, (some FieldType.boolean))
def mM_isIn : zK := (⟨"StarLessModel", "isIn", "(II)Z"⟩, prog_9_method_4_code, 2, (some FieldType.boolean))
def mM_kinds : zK := (⟨"StarLessModel", "kinds", "(I)I"⟩, prog_9_method_40_code, 5, (some FieldType.int))
def mM_layRow : zK := (⟨"StarLessModel", "layRow", "(I)V"⟩, prog_9_method_34_code, 5, (none : Option FieldType))
def mM_limits : zK := (⟨"StarLessModel", "limits", "()I"⟩, prog_9_method_39_code, 4, (some FieldType.int))
def mM_lose : zK := (⟨"StarLessModel", "lose", "(I)I"⟩, prog_9_method_47_code, 3, (some FieldType.int))
def mM_losersOf : zK := (⟨"StarLessModel", "losersOf", "(I)I"⟩, prog_9_method_21_code, 4, (some FieldType.int))
def mM_lost : zK := (⟨"StarLessModel", "lost", "()J"⟩, prog_9_method_3_code, 0, (some FieldType.long))
def mM_many : zK := (⟨"StarLessModel", "many", "(I)I"⟩, prog_9_method_59_code, 2, (some FieldType.int))
def mM_may : zK := (⟨"StarLessModel", "may", "(IIIII)I"⟩, prog_9_method_31_code, 8, (some FieldType.int))
def mM_noCell : zK := (⟨"StarLessModel", "noCell", "(II)I"⟩, prog_9_method_48_code, 3, (some FieldType.int))
def mM_noDoing : zK := (⟨"StarLessModel", "noDoing", "(I)Z"⟩, prog_9_method_10_code, 2, (some FieldType.boolean))
def mM_noGuest : zK := (⟨"StarLessModel", "noGuest", "(I)Z"⟩, prog_9_method_9_code, 2, (some FieldType.boolean))
def mM_noSheet : zK := (⟨"StarLessModel", "noSheet", "(I)Z"⟩, prog_9_method_45_code, 1, (some FieldType.boolean))
def mM_odds : zK := (⟨"StarLessModel", "odds", "(IIIIII)J"⟩, prog_9_method_44_code, 12, (some FieldType.long))
def mM_ofDoing : zK := (⟨"StarLessModel", "ofDoing", "(II)I"⟩, prog_9_method_23_code, 3, (some FieldType.int))
def mM_ofGuest : zK := (⟨"StarLessModel", "ofGuest", "(II)I"⟩, prog_9_method_22_code, 3, (some FieldType.int))
def mM_pairsBarred : zK := (⟨"StarLessModel", "pairsBarred", "(IIII)I"⟩, prog_9_method_28_code, 8, (some FieldType.int))
def mM_pleased : zK := (⟨"StarLessModel", "pleased", "(II)I"⟩, prog_9_method_26_code, 3, (some FieldType.int))
def mM_pleasedBy : zK := (⟨"StarLessModel", "pleasedBy", "(II)I"⟩, prog_9_method_19_code, 5, (some FieldType.int))
def mM_put : zK := (⟨"StarLessModel", "put", "(III)I"⟩, prog_9_method_49_code, 4, (some FieldType.int))
def mM_reading : zK := (⟨"StarLessModel", "reading", "(IIZ)I"⟩, prog_9_method_36_code, 4, (some FieldType.int))
def mM_readsDoing : zK := (⟨"StarLessModel", "readsDoing", "(II)Z"⟩, prog_9_method_14_code, 5, (some FieldType.boolean))
def mM_readsGuest : zK := (⟨"StarLessModel", "readsGuest", "(II)Z"⟩, prog_9_method_15_code, 6, (some FieldType.boolean))
def mM_readsHotel : zK := (⟨"StarLessModel", "readsHotel", "(II)Z"⟩, prog_9_method_16_code, 4, (some FieldType.boolean))
def mM_refused : zK := (⟨"StarLessModel", "refused", "(I)I"⟩, prog_9_method_6_code, 2, (some FieldType.int))
def mM_refusedLong : zK := (⟨"StarLessModel", "refusedLong", "()J"⟩, prog_9_method_43_code, 1, (some FieldType.long))
def mM_season : zK := (⟨"StarLessModel", "season", "(IIIIII)I"⟩, prog_9_method_29_code, 8, (some FieldType.int))
def mM_share : zK := (⟨"StarLessModel", "share", "(JJI)J"⟩, prog_9_method_5_code, 11, (some FieldType.long))
def mM_sheet : zK := (⟨"StarLessModel", "sheet", "(III)I"⟩, prog_9_method_46_code, 5, (some FieldType.int))
def mM_stars : zK := (⟨"StarLessModel", "stars", "(I)I"⟩, prog_9_method_25_code, 3, (some FieldType.int))
def mM_strict : zK := (⟨"StarLessModel", "strict", "(I)I"⟩, prog_9_method_24_code, 3, (some FieldType.int))
def mM_tastes : zK := (⟨"StarLessModel", "tastes", "(I)I"⟩, prog_9_method_41_code, 5, (some FieldType.int))
def mM_tell : zK := (⟨"StarLessModel", "tell", "(I)I"⟩, prog_9_method_54_code, 4, (some FieldType.int))
def mM_trace : zK := (⟨"StarLessModel", "trace", "()I"⟩, prog_9_method_57_code, 1, (some FieldType.int))
def mM_traced : zK := (⟨"StarLessModel", "traced", "(I)V"⟩, prog_9_method_53_code, 2, (none : Option FieldType))
def mO_init : zK := (⟨"StarLess$Outcome", "<init>", "()V"⟩, prog_4_method_1_code, 1, (none : Option FieldType))
def mO_live : zK := (⟨"StarLess$Outcome", "live", "(LStarLess$House;[IIII)V"⟩, prog_4_method_2_code, 9, (none : Option FieldType))
def mO_pay : zK := (⟨"StarLess$Outcome", "pay", "(LStarLess$House;IIIZ)V"⟩, prog_4_method_3_code, 6, (none : Option FieldType))
def mP_choose : zK := (⟨"StarLess$Plan", "choose", "(LStarLess$House;)V"⟩, prog_5_method_5_code, 5, (none : Option FieldType))
def mP_firstBest : zK := (⟨"StarLess$Plan", "firstBest", "(LStarLess$House;II)I"⟩, prog_5_method_6_code, 5, (some FieldType.int))
def mP_init : zK := (⟨"StarLess$Plan", "<init>", "()V"⟩, prog_5_method_1_code, 1, (none : Option FieldType))
def mP_isMade : zK := (⟨"StarLess$Plan", "isMade", "(LStarLess$House;)Z"⟩, prog_5_method_2_code, 4, (some FieldType.boolean))
def mP_leastOf : zK := (⟨"StarLess$Plan", "leastOf", "(LStarLess$House;II)I"⟩, prog_5_method_3_code, 6, (some FieldType.int))
def mP_weight : zK := (⟨"StarLess$Plan", "weight", "(LStarLess$House;III)I"⟩, prog_5_method_4_code, 7, (some FieldType.int))
def mS_faultAsRow : zK := (⟨"StarLess$Sheets", "faultAsRow", "(II)I"⟩, prog_6_method_5_code, 3, (some FieldType.int))
def mS_init : zK := (⟨"StarLess$Sheets", "<init>", "()V"⟩, prog_6_method_1_code, 1, (none : Option FieldType))
def mS_isCell : zK := (⟨"StarLess$Sheets", "isCell", "(II)Z"⟩, prog_6_method_3_code, 3, (some FieldType.boolean))
def mS_isSheet : zK := (⟨"StarLess$Sheets", "isSheet", "(I)Z"⟩, prog_6_method_2_code, 2, (some FieldType.boolean))
def mS_renew : zK := (⟨"StarLess$Sheets", "renew", "(III)V"⟩, prog_6_method_6_code, 5, (none : Option FieldType))
def mS_spans : zK := (⟨"StarLess$Sheets", "spans", "(III)Z"⟩, prog_6_method_4_code, 4, (some FieldType.boolean))
def mT_areDoings : zK := (⟨"StarLess$Text", "areDoings", "()Z"⟩, prog_7_method_3_code, 1, (some FieldType.boolean))
def mT_areGuests : zK := (⟨"StarLess$Text", "areGuests", "()Z"⟩, prog_7_method_4_code, 1, (some FieldType.boolean))
def mT_init : zK := (⟨"StarLess$Text", "<init>", "()V"⟩, prog_7_method_1_code, 1, (none : Option FieldType))
def mT_isLetter : zK := (⟨"StarLess$Text", "isLetter", "()Z"⟩, prog_7_method_5_code, 1, (some FieldType.boolean))
def mT_isOne : zK := (⟨"StarLess$Text", "isOne", "([III)Z"⟩, prog_7_method_2_code, 5, (some FieldType.boolean))
def mT_next : zK := (⟨"StarLess$Text", "next", "(II)Z"⟩, prog_7_method_6_code, 4, (some FieldType.boolean))
theorem iX0 : ∀ w ∈ u_ws RX0 TX0 9, w ∈ zWs := by decide +kernel
theorem iX1 : ∀ w ∈ u_ws RX1 TX1 4, w ∈ zWs := by decide +kernel
theorem iX2 : ∀ w ∈ u_ws RX2 TX2 5, w ∈ zWs := by decide +kernel
theorem iX3 : ∀ w ∈ u_ws RX3 TX3 3, w ∈ zWs := by decide +kernel
theorem iX4 : ∀ w ∈ u_ws RX4 TX4 4, w ∈ zWs := by decide +kernel
theorem iX5 : ∀ w ∈ u_ws RX5 TX5 6, w ∈ zWs := by decide +kernel
theorem iX6 : ∀ w ∈ u_ws RX6 TX6 8, w ∈ zWs := by decide +kernel
theorem iX7 : ∀ w ∈ u_ws RX7 TX7 38, w ∈ zWs := by decide +kernel
end
section
theorem dC_as_0 : decode mC_as.2.1 0 = .ok (.aload_n 0, 1) := by decide +kernel
theorem dC_as_1 : decode mC_as.2.1 1 = .ok (.iconst 0, 1) := by decide +kernel
theorem dC_as_2 : decode mC_as.2.1 2 = .ok (.putfield 53, 3) := by decide +kernel
theorem dC_as_5 : decode mC_as.2.1 5 = .ok (.aload_n 0, 1) := by decide +kernel
theorem dC_as_6 : decode mC_as.2.1 6 = .ok (.getfield 12, 3) := by decide +kernel
theorem dC_as_9 : decode mC_as.2.1 9 = .ok (.iload_n 1, 1) := by decide +kernel
theorem dC_as_10 : decode mC_as.2.1 10 = .ok (.invokevirtual 101, 3) := by decide +kernel
theorem dC_as_13 : decode mC_as.2.1 13 = .ok (.ifCond .ne 5, 3) := by decide +kernel
theorem dC_as_16 : decode mC_as.2.1 16 = .ok (.iconst (-1), 1) := by decide +kernel
theorem dC_as_17 : decode mC_as.2.1 17 = .ok (.ireturn, 1) := by decide +kernel
theorem dC_as_18 : decode mC_as.2.1 18 = .ok (.iload_n 2, 1) := by decide +kernel
theorem dC_as_19 : decode mC_as.2.1 19 = .ok (.ifCond .lt 8, 3) := by decide +kernel
theorem dC_as_22 : decode mC_as.2.1 22 = .ok (.iload_n 2, 1) := by decide +kernel
theorem dC_as_23 : decode mC_as.2.1 23 = .ok (.iconst 2, 1) := by decide +kernel
theorem dC_as_24 : decode mC_as.2.1 24 = .ok (.if_icmp .le 6, 3) := by decide +kernel
theorem dC_as_27 : decode mC_as.2.1 27 = .ok (.bipush (-2), 2) := by decide +kernel
theorem dC_as_29 : decode mC_as.2.1 29 = .ok (.ireturn, 1) := by decide +kernel
theorem dC_as_30 : decode mC_as.2.1 30 = .ok (.aload_n 0, 1) := by decide +kernel
theorem dC_as_31 : decode mC_as.2.1 31 = .ok (.getfield 12, 3) := by decide +kernel
theorem dC_as_34 : decode mC_as.2.1 34 = .ok (.getfield 104, 3) := by decide +kernel
theorem dC_as_37 : decode mC_as.2.1 37 = .ok (.iload_n 1, 1) := by decide +kernel
theorem dC_as_38 : decode mC_as.2.1 38 = .ok (.iaload, 1) := by decide +kernel
theorem dC_as_39 : decode mC_as.2.1 39 = .ok (.iload_n 2, 1) := by decide +kernel
theorem dC_as_40 : decode mC_as.2.1 40 = .ok (.if_icmp .ge 9, 3) := by decide +kernel
theorem dC_as_43 : decode mC_as.2.1 43 = .ok (.aload_n 0, 1) := by decide +kernel
theorem dC_as_44 : decode mC_as.2.1 44 = .ok (.iconst 2, 1) := by decide +kernel
theorem dC_as_45 : decode mC_as.2.1 45 = .ok (.invokevirtual 68, 3) := by decide +kernel
theorem dC_as_48 : decode mC_as.2.1 48 = .ok (.ireturn, 1) := by decide +kernel
theorem dC_as_49 : decode mC_as.2.1 49 = .ok (.iconst 1, 1) := by decide +kernel
theorem dC_as_50 : decode mC_as.2.1 50 = .ok (.ireturn, 1) := by decide +kernel
theorem dC_ask_0 : decode mC_ask.2.1 0 = .ok (.aload_n 0, 1) := by decide +kernel
theorem dC_ask_1 : decode mC_ask.2.1 1 = .ok (.getfield 12, 3) := by decide +kernel
theorem dC_ask_4 : decode mC_ask.2.1 4 = .ok (.invokevirtual 126, 3) := by decide +kernel
theorem dC_ask_7 : decode mC_ask.2.1 7 = .ok (.ifCond .ne 6, 3) := by decide +kernel
theorem dC_ask_10 : decode mC_ask.2.1 10 = .ok (.bipush (-3), 2) := by decide +kernel
theorem dC_ask_12 : decode mC_ask.2.1 12 = .ok (.ireturn, 1) := by decide +kernel
theorem dC_ask_13 : decode mC_ask.2.1 13 = .ok (.iload_n 1, 1) := by decide +kernel
theorem dC_ask_14 : decode mC_ask.2.1 14 = .ok (.ifCond .lt 16, 3) := by decide +kernel
theorem dC_ask_17 : decode mC_ask.2.1 17 = .ok (.iload_n 1, 1) := by decide +kernel
theorem dC_ask_18 : decode mC_ask.2.1 18 = .ok (.iconst 1, 1) := by decide +kernel
theorem dC_ask_19 : decode mC_ask.2.1 19 = .ok (.aload_n 0, 1) := by decide +kernel
theorem dC_ask_20 : decode mC_ask.2.1 20 = .ok (.getfield 12, 3) := by decide +kernel
theorem dC_ask_23 : decode mC_ask.2.1 23 = .ok (.getfield 100, 3) := by decide +kernel
theorem dC_ask_26 : decode mC_ask.2.1 26 = .ok (.ishl, 1) := by decide +kernel
theorem dC_ask_27 : decode mC_ask.2.1 27 = .ok (.if_icmp .lt 6, 3) := by decide +kernel
theorem dC_ask_30 : decode mC_ask.2.1 30 = .ok (.bipush (-2), 2) := by decide +kernel
theorem dC_ask_32 : decode mC_ask.2.1 32 = .ok (.ireturn, 1) := by decide +kernel
theorem dC_ask_33 : decode mC_ask.2.1 33 = .ok (.bipush (-9), 2) := by decide +kernel
theorem dC_ask_35 : decode mC_ask.2.1 35 = .ok (.istore_n 2, 1) := by decide +kernel
theorem dC_ask_36 : decode mC_ask.2.1 36 = .ok (.bipush 13, 2) := by decide +kernel
theorem dC_ask_38 : decode mC_ask.2.1 38 = .ok (.istore_n 3, 1) := by decide +kernel
theorem dC_ask_39 : decode mC_ask.2.1 39 = .ok (.iconst 0, 1) := by decide +kernel
theorem dC_ask_40 : decode mC_ask.2.1 40 = .ok (.istore 4, 2) := by decide +kernel
theorem dC_ask_42 : decode mC_ask.2.1 42 = .ok (.iload 4, 2) := by decide +kernel
theorem dC_ask_44 : decode mC_ask.2.1 44 = .ok (.aload_n 0, 1) := by decide +kernel
theorem dC_ask_45 : decode mC_ask.2.1 45 = .ok (.getfield 12, 3) := by decide +kernel
theorem dC_ask_48 : decode mC_ask.2.1 48 = .ok (.getfield 169, 3) := by decide +kernel
theorem dC_ask_51 : decode mC_ask.2.1 51 = .ok (.if_icmp .ge 64, 3) := by decide +kernel
theorem dC_ask_54 : decode mC_ask.2.1 54 = .ok (.iload_n 1, 1) := by decide +kernel
theorem dC_ask_55 : decode mC_ask.2.1 55 = .ok (.aload_n 0, 1) := by decide +kernel
theorem dC_ask_56 : decode mC_ask.2.1 56 = .ok (.getfield 12, 3) := by decide +kernel
theorem dC_ask_59 : decode mC_ask.2.1 59 = .ok (.iload 4, 2) := by decide +kernel
theorem dC_ask_61 : decode mC_ask.2.1 61 = .ok (.invokevirtual 123, 3) := by decide +kernel
theorem dC_ask_64 : decode mC_ask.2.1 64 = .ok (.iand, 1) := by decide +kernel
theorem dC_ask_65 : decode mC_ask.2.1 65 = .ok (.istore 5, 2) := by decide +kernel
theorem dC_ask_67 : decode mC_ask.2.1 67 = .ok (.iload 5, 2) := by decide +kernel
theorem dC_ask_69 : decode mC_ask.2.1 69 = .ok (.ifCond .eq 40, 3) := by decide +kernel
theorem dC_ask_72 : decode mC_ask.2.1 72 = .ok (.aload_n 0, 1) := by decide +kernel
theorem dC_ask_73 : decode mC_ask.2.1 73 = .ok (.getfield 12, 3) := by decide +kernel
theorem dC_ask_76 : decode mC_ask.2.1 76 = .ok (.getfield 120, 3) := by decide +kernel
theorem dC_ask_79 : decode mC_ask.2.1 79 = .ok (.iload 4, 2) := by decide +kernel
theorem dC_ask_81 : decode mC_ask.2.1 81 = .ok (.iaload, 1) := by decide +kernel
theorem dC_ask_82 : decode mC_ask.2.1 82 = .ok (.iload_n 3, 1) := by decide +kernel
theorem dC_ask_83 : decode mC_ask.2.1 83 = .ok (.if_icmp .ge 26, 3) := by decide +kernel
theorem dC_ask_86 : decode mC_ask.2.1 86 = .ok (.aload_n 0, 1) := by decide +kernel
theorem dC_ask_87 : decode mC_ask.2.1 87 = .ok (.getfield 12, 3) := by decide +kernel
theorem dC_ask_90 : decode mC_ask.2.1 90 = .ok (.getfield 120, 3) := by decide +kernel
theorem dC_ask_93 : decode mC_ask.2.1 93 = .ok (.iload 4, 2) := by decide +kernel
theorem dC_ask_95 : decode mC_ask.2.1 95 = .ok (.iaload, 1) := by decide +kernel
theorem dC_ask_96 : decode mC_ask.2.1 96 = .ok (.istore_n 3, 1) := by decide +kernel
theorem dC_ask_97 : decode mC_ask.2.1 97 = .ok (.bipush 10, 2) := by decide +kernel
theorem dC_ask_99 : decode mC_ask.2.1 99 = .ok (.iload 5, 2) := by decide +kernel
theorem dC_ask_101 : decode mC_ask.2.1 101 = .ok (.invokestatic 170, 3) := by decide +kernel
theorem dC_ask_104 : decode mC_ask.2.1 104 = .ok (.imul, 1) := by decide +kernel
theorem dC_ask_105 : decode mC_ask.2.1 105 = .ok (.iload 4, 2) := by decide +kernel
theorem dC_ask_107 : decode mC_ask.2.1 107 = .ok (.iadd, 1) := by decide +kernel
theorem dC_ask_108 : decode mC_ask.2.1 108 = .ok (.istore_n 2, 1) := by decide +kernel
theorem dC_ask_109 : decode mC_ask.2.1 109 = .ok (.iinc 4 1, 3) := by decide +kernel
theorem dC_ask_112 : decode mC_ask.2.1 112 = .ok (.goto (-70), 3) := by decide +kernel
theorem dC_ask_115 : decode mC_ask.2.1 115 = .ok (.iload_n 2, 1) := by decide +kernel
theorem dC_ask_116 : decode mC_ask.2.1 116 = .ok (.ireturn, 1) := by decide +kernel
theorem dC_back_0 : decode mC_back.2.1 0 = .ok (.iload_n 1, 1) := by decide +kernel
theorem dC_back_1 : decode mC_back.2.1 1 = .ok (.ifCond .lt 14, 3) := by decide +kernel
theorem dC_back_4 : decode mC_back.2.1 4 = .ok (.iload_n 1, 1) := by decide +kernel
theorem dC_back_5 : decode mC_back.2.1 5 = .ok (.aload_n 0, 1) := by decide +kernel
theorem dC_back_6 : decode mC_back.2.1 6 = .ok (.getfield 49, 3) := by decide +kernel
theorem dC_back_9 : decode mC_back.2.1 9 = .ok (.getfield 97, 3) := by decide +kernel
theorem dC_back_12 : decode mC_back.2.1 12 = .ok (.if_icmp .le 6, 3) := by decide +kernel
theorem dC_back_15 : decode mC_back.2.1 15 = .ok (.bipush (-2), 2) := by decide +kernel
theorem dC_back_17 : decode mC_back.2.1 17 = .ok (.ireturn, 1) := by decide +kernel
theorem dC_back_18 : decode mC_back.2.1 18 = .ok (.aload_n 0, 1) := by decide +kernel
theorem dC_back_19 : decode mC_back.2.1 19 = .ok (.getfield 49, 3) := by decide +kernel
theorem dC_back_22 : decode mC_back.2.1 22 = .ok (.dup, 1) := by decide +kernel
theorem dC_back_23 : decode mC_back.2.1 23 = .ok (.getfield 97, 3) := by decide +kernel
theorem dC_back_26 : decode mC_back.2.1 26 = .ok (.iload_n 1, 1) := by decide +kernel
theorem dC_back_27 : decode mC_back.2.1 27 = .ok (.isub, 1) := by decide +kernel
theorem dC_back_28 : decode mC_back.2.1 28 = .ok (.putfield 97, 3) := by decide +kernel
theorem dC_back_31 : decode mC_back.2.1 31 = .ok (.aload_n 0, 1) := by decide +kernel
theorem dC_back_32 : decode mC_back.2.1 32 = .ok (.getfield 49, 3) := by decide +kernel
theorem dC_back_35 : decode mC_back.2.1 35 = .ok (.getfield 97, 3) := by decide +kernel
theorem dC_back_38 : decode mC_back.2.1 38 = .ok (.ireturn, 1) := by decide +kernel
theorem dC_cell_0 : decode mC_cell.2.1 0 = .ok (.aload_n 0, 1) := by decide +kernel
theorem dC_cell_1 : decode mC_cell.2.1 1 = .ok (.iconst 0, 1) := by decide +kernel
theorem dC_cell_2 : decode mC_cell.2.1 2 = .ok (.putfield 53, 3) := by decide +kernel
theorem dC_cell_5 : decode mC_cell.2.1 5 = .ok (.aload_n 0, 1) := by decide +kernel
theorem dC_cell_6 : decode mC_cell.2.1 6 = .ok (.getfield 21, 3) := by decide +kernel
theorem dC_cell_9 : decode mC_cell.2.1 9 = .ok (.iload_n 1, 1) := by decide +kernel
theorem dC_cell_10 : decode mC_cell.2.1 10 = .ok (.invokevirtual 57, 3) := by decide +kernel
theorem dC_cell_13 : decode mC_cell.2.1 13 = .ok (.ifCond .eq 10, 3) := by decide +kernel
theorem dC_cell_16 : decode mC_cell.2.1 16 = .ok (.iload_n 3, 1) := by decide +kernel
theorem dC_cell_17 : decode mC_cell.2.1 17 = .ok (.invokestatic 61, 3) := by decide +kernel
theorem dC_cell_20 : decode mC_cell.2.1 20 = .ok (.ifCond .ne 7, 3) := by decide +kernel
theorem dC_cell_23 : decode mC_cell.2.1 23 = .ok (.ldc2_w 194, 3) := by decide +kernel
theorem dC_cell_26 : decode mC_cell.2.1 26 = .ok (.lreturn, 1) := by decide +kernel
theorem dC_cell_27 : decode mC_cell.2.1 27 = .ok (.aload_n 0, 1) := by decide +kernel
theorem dC_cell_28 : decode mC_cell.2.1 28 = .ok (.aload_n 0, 1) := by decide +kernel
theorem dC_cell_29 : decode mC_cell.2.1 29 = .ok (.getfield 21, 3) := by decide +kernel
theorem dC_cell_32 : decode mC_cell.2.1 32 = .ok (.iload_n 1, 1) := by decide +kernel
theorem dC_cell_33 : decode mC_cell.2.1 33 = .ok (.iload_n 3, 1) := by decide +kernel
theorem dC_cell_34 : decode mC_cell.2.1 34 = .ok (.invokevirtual 64, 3) := by decide +kernel
theorem dC_cell_37 : decode mC_cell.2.1 37 = .ok (.putfield 53, 3) := by decide +kernel
theorem dC_cell_40 : decode mC_cell.2.1 40 = .ok (.aload_n 0, 1) := by decide +kernel
theorem dC_cell_41 : decode mC_cell.2.1 41 = .ok (.getfield 53, 3) := by decide +kernel
theorem dC_cell_44 : decode mC_cell.2.1 44 = .ok (.ifCond .eq 7, 3) := by decide +kernel
theorem dC_cell_47 : decode mC_cell.2.1 47 = .ok (.ldc2_w 194, 3) := by decide +kernel
theorem dC_cell_50 : decode mC_cell.2.1 50 = .ok (.lreturn, 1) := by decide +kernel
theorem dC_cell_51 : decode mC_cell.2.1 51 = .ok (.aload_n 0, 1) := by decide +kernel
theorem dC_cell_52 : decode mC_cell.2.1 52 = .ok (.getfield 21, 3) := by decide +kernel
theorem dC_cell_55 : decode mC_cell.2.1 55 = .ok (.iload_n 1, 1) := by decide +kernel
theorem dC_cell_56 : decode mC_cell.2.1 56 = .ok (.iload_n 2, 1) := by decide +kernel
theorem dC_cell_57 : decode mC_cell.2.1 57 = .ok (.invokevirtual 207, 3) := by decide +kernel
theorem dC_cell_60 : decode mC_cell.2.1 60 = .ok (.ifCond .ne 12, 3) := by decide +kernel
theorem dC_cell_63 : decode mC_cell.2.1 63 = .ok (.aload_n 0, 1) := by decide +kernel
theorem dC_cell_64 : decode mC_cell.2.1 64 = .ok (.iconst 3, 1) := by decide +kernel
theorem dC_cell_65 : decode mC_cell.2.1 65 = .ok (.putfield 53, 3) := by decide +kernel
theorem dC_cell_68 : decode mC_cell.2.1 68 = .ok (.ldc2_w 194, 3) := by decide +kernel
theorem dC_cell_71 : decode mC_cell.2.1 71 = .ok (.lreturn, 1) := by decide +kernel
theorem dC_cell_72 : decode mC_cell.2.1 72 = .ok (.aload_n 0, 1) := by decide +kernel
theorem dC_cell_73 : decode mC_cell.2.1 73 = .ok (.getfield 21, 3) := by decide +kernel
theorem dC_cell_76 : decode mC_cell.2.1 76 = .ok (.getfield 76, 3) := by decide +kernel
theorem dC_cell_79 : decode mC_cell.2.1 79 = .ok (.iload_n 1, 1) := by decide +kernel
theorem dC_cell_80 : decode mC_cell.2.1 80 = .ok (.aaload, 1) := by decide +kernel
theorem dC_cell_81 : decode mC_cell.2.1 81 = .ok (.iload_n 2, 1) := by decide +kernel
theorem dC_cell_82 : decode mC_cell.2.1 82 = .ok (.iaload, 1) := by decide +kernel
theorem dC_cell_83 : decode mC_cell.2.1 83 = .ok (.i2l, 1) := by decide +kernel
theorem dC_cell_84 : decode mC_cell.2.1 84 = .ok (.lreturn, 1) := by decide +kernel
theorem dC_charms_0 : decode mC_charms.2.1 0 = .ok (.aload_n 0, 1) := by decide +kernel
theorem dC_charms_1 : decode mC_charms.2.1 1 = .ok (.getfield 12, 3) := by decide +kernel
theorem dC_charms_4 : decode mC_charms.2.1 4 = .ok (.iload_n 1, 1) := by decide +kernel
theorem dC_charms_5 : decode mC_charms.2.1 5 = .ok (.invokevirtual 114, 3) := by decide +kernel
theorem dC_charms_8 : decode mC_charms.2.1 8 = .ok (.ifCond .ne 5, 3) := by decide +kernel
theorem dC_charms_11 : decode mC_charms.2.1 11 = .ok (.iconst (-1), 1) := by decide +kernel
theorem dC_charms_12 : decode mC_charms.2.1 12 = .ok (.ireturn, 1) := by decide +kernel
theorem dC_charms_13 : decode mC_charms.2.1 13 = .ok (.aload_n 0, 1) := by decide +kernel
theorem dC_charms_14 : decode mC_charms.2.1 14 = .ok (.aload_n 0, 1) := by decide +kernel
theorem dC_charms_15 : decode mC_charms.2.1 15 = .ok (.getfield 12, 3) := by decide +kernel
theorem dC_charms_18 : decode mC_charms.2.1 18 = .ok (.getfield 117, 3) := by decide +kernel
theorem dC_charms_21 : decode mC_charms.2.1 21 = .ok (.iload_n 1, 1) := by decide +kernel
theorem dC_charms_22 : decode mC_charms.2.1 22 = .ok (.bipush 10, 2) := by decide +kernel
theorem dC_charms_24 : decode mC_charms.2.1 24 = .ok (.invokevirtual 190, 3) := by decide +kernel
theorem dC_charms_27 : decode mC_charms.2.1 27 = .ok (.ireturn, 1) := by decide +kernel
theorem dC_commonDivisor_0 : decode mC_commonDivisor.2.1 0 = .ok (.iload_n 0, 1) := by decide +kernel
theorem dC_commonDivisor_1 : decode mC_commonDivisor.2.1 1 = .ok (.istore_n 2, 1) := by decide +kernel
theorem dC_commonDivisor_2 : decode mC_commonDivisor.2.1 2 = .ok (.iload_n 1, 1) := by decide +kernel
theorem dC_commonDivisor_3 : decode mC_commonDivisor.2.1 3 = .ok (.istore_n 3, 1) := by decide +kernel
theorem dC_commonDivisor_4 : decode mC_commonDivisor.2.1 4 = .ok (.iconst 0, 1) := by decide +kernel
theorem dC_commonDivisor_5 : decode mC_commonDivisor.2.1 5 = .ok (.istore 4, 2) := by decide +kernel
theorem dC_commonDivisor_7 : decode mC_commonDivisor.2.1 7 = .ok (.iload 4, 2) := by decide +kernel
theorem dC_commonDivisor_9 : decode mC_commonDivisor.2.1 9 = .ok (.bipush 64, 2) := by decide +kernel
theorem dC_commonDivisor_11 : decode mC_commonDivisor.2.1 11 = .ok (.if_icmp .ge 23, 3) := by decide +kernel
theorem dC_commonDivisor_14 : decode mC_commonDivisor.2.1 14 = .ok (.iload_n 3, 1) := by decide +kernel
theorem dC_commonDivisor_15 : decode mC_commonDivisor.2.1 15 = .ok (.ifCond .eq 19, 3) := by decide +kernel
theorem dC_commonDivisor_18 : decode mC_commonDivisor.2.1 18 = .ok (.iload_n 2, 1) := by decide +kernel
theorem dC_commonDivisor_19 : decode mC_commonDivisor.2.1 19 = .ok (.iload_n 3, 1) := by decide +kernel
theorem dC_commonDivisor_20 : decode mC_commonDivisor.2.1 20 = .ok (.irem, 1) := by decide +kernel
theorem dC_commonDivisor_21 : decode mC_commonDivisor.2.1 21 = .ok (.istore 5, 2) := by decide +kernel
theorem dC_commonDivisor_23 : decode mC_commonDivisor.2.1 23 = .ok (.iload_n 3, 1) := by decide +kernel
theorem dC_commonDivisor_24 : decode mC_commonDivisor.2.1 24 = .ok (.istore_n 2, 1) := by decide +kernel
theorem dC_commonDivisor_25 : decode mC_commonDivisor.2.1 25 = .ok (.iload 5, 2) := by decide +kernel
theorem dC_commonDivisor_27 : decode mC_commonDivisor.2.1 27 = .ok (.istore_n 3, 1) := by decide +kernel
theorem dC_commonDivisor_28 : decode mC_commonDivisor.2.1 28 = .ok (.iinc 4 1, 3) := by decide +kernel
theorem dC_commonDivisor_31 : decode mC_commonDivisor.2.1 31 = .ok (.goto (-24), 3) := by decide +kernel
theorem dC_commonDivisor_34 : decode mC_commonDivisor.2.1 34 = .ok (.iload_n 2, 1) := by decide +kernel
theorem dC_commonDivisor_35 : decode mC_commonDivisor.2.1 35 = .ok (.ireturn, 1) := by decide +kernel
theorem dC_copy_0 : decode mC_copy.2.1 0 = .ok (.aload_n 0, 1) := by decide +kernel
theorem dC_copy_1 : decode mC_copy.2.1 1 = .ok (.iconst 0, 1) := by decide +kernel
theorem dC_copy_2 : decode mC_copy.2.1 2 = .ok (.putfield 53, 3) := by decide +kernel
theorem dC_copy_5 : decode mC_copy.2.1 5 = .ok (.aload_n 0, 1) := by decide +kernel
theorem dC_copy_6 : decode mC_copy.2.1 6 = .ok (.getfield 21, 3) := by decide +kernel
theorem dC_copy_9 : decode mC_copy.2.1 9 = .ok (.iload_n 1, 1) := by decide +kernel
theorem dC_copy_10 : decode mC_copy.2.1 10 = .ok (.invokevirtual 57, 3) := by decide +kernel
theorem dC_copy_13 : decode mC_copy.2.1 13 = .ok (.ifCond .eq 14, 3) := by decide +kernel
theorem dC_copy_16 : decode mC_copy.2.1 16 = .ok (.aload_n 0, 1) := by decide +kernel
theorem dC_copy_17 : decode mC_copy.2.1 17 = .ok (.getfield 21, 3) := by decide +kernel
theorem dC_copy_20 : decode mC_copy.2.1 20 = .ok (.iload_n 3, 1) := by decide +kernel
theorem dC_copy_21 : decode mC_copy.2.1 21 = .ok (.invokevirtual 57, 3) := by decide +kernel
theorem dC_copy_24 : decode mC_copy.2.1 24 = .ok (.ifCond .ne 5, 3) := by decide +kernel
theorem dC_copy_27 : decode mC_copy.2.1 27 = .ok (.iconst (-1), 1) := by decide +kernel
theorem dC_copy_28 : decode mC_copy.2.1 28 = .ok (.ireturn, 1) := by decide +kernel
theorem dC_copy_29 : decode mC_copy.2.1 29 = .ok (.aload_n 0, 1) := by decide +kernel
theorem dC_copy_30 : decode mC_copy.2.1 30 = .ok (.getfield 21, 3) := by decide +kernel
theorem dC_copy_33 : decode mC_copy.2.1 33 = .ok (.getfield 203, 3) := by decide +kernel
theorem dC_copy_36 : decode mC_copy.2.1 36 = .ok (.iload_n 1, 1) := by decide +kernel
theorem dC_copy_37 : decode mC_copy.2.1 37 = .ok (.baload, 1) := by decide +kernel
theorem dC_copy_38 : decode mC_copy.2.1 38 = .ok (.ifCond .eq 15, 3) := by decide +kernel
theorem dC_copy_41 : decode mC_copy.2.1 41 = .ok (.aload_n 0, 1) := by decide +kernel
theorem dC_copy_42 : decode mC_copy.2.1 42 = .ok (.getfield 21, 3) := by decide +kernel
theorem dC_copy_45 : decode mC_copy.2.1 45 = .ok (.getfield 203, 3) := by decide +kernel
theorem dC_copy_48 : decode mC_copy.2.1 48 = .ok (.iload_n 3, 1) := by decide +kernel
theorem dC_copy_49 : decode mC_copy.2.1 49 = .ok (.baload, 1) := by decide +kernel
theorem dC_copy_50 : decode mC_copy.2.1 50 = .ok (.ifCond .ne 9, 3) := by decide +kernel
theorem dC_copy_53 : decode mC_copy.2.1 53 = .ok (.aload_n 0, 1) := by decide +kernel
theorem dC_copy_54 : decode mC_copy.2.1 54 = .ok (.iconst 1, 1) := by decide +kernel
theorem dC_copy_55 : decode mC_copy.2.1 55 = .ok (.invokevirtual 68, 3) := by decide +kernel
theorem dC_copy_58 : decode mC_copy.2.1 58 = .ok (.ireturn, 1) := by decide +kernel
theorem dC_copy_59 : decode mC_copy.2.1 59 = .ok (.aload_n 0, 1) := by decide +kernel
theorem dC_copy_60 : decode mC_copy.2.1 60 = .ok (.getfield 21, 3) := by decide +kernel
theorem dC_copy_63 : decode mC_copy.2.1 63 = .ok (.getfield 211, 3) := by decide +kernel
theorem dC_copy_66 : decode mC_copy.2.1 66 = .ok (.iload_n 1, 1) := by decide +kernel
theorem dC_copy_67 : decode mC_copy.2.1 67 = .ok (.iaload, 1) := by decide +kernel
theorem dC_copy_68 : decode mC_copy.2.1 68 = .ok (.aload_n 0, 1) := by decide +kernel
theorem dC_copy_69 : decode mC_copy.2.1 69 = .ok (.getfield 21, 3) := by decide +kernel
theorem dC_copy_72 : decode mC_copy.2.1 72 = .ok (.getfield 211, 3) := by decide +kernel
theorem dC_copy_75 : decode mC_copy.2.1 75 = .ok (.iload_n 3, 1) := by decide +kernel
theorem dC_copy_76 : decode mC_copy.2.1 76 = .ok (.iaload, 1) := by decide +kernel
theorem dC_copy_77 : decode mC_copy.2.1 77 = .ok (.if_icmp .eq 9, 3) := by decide +kernel
theorem dC_copy_80 : decode mC_copy.2.1 80 = .ok (.aload_n 0, 1) := by decide +kernel
theorem dC_copy_81 : decode mC_copy.2.1 81 = .ok (.iconst 2, 1) := by decide +kernel
theorem dC_copy_82 : decode mC_copy.2.1 82 = .ok (.invokevirtual 68, 3) := by decide +kernel
theorem dC_copy_85 : decode mC_copy.2.1 85 = .ok (.ireturn, 1) := by decide +kernel
theorem dC_copy_86 : decode mC_copy.2.1 86 = .ok (.aload_n 0, 1) := by decide +kernel
theorem dC_copy_87 : decode mC_copy.2.1 87 = .ok (.getfield 21, 3) := by decide +kernel
theorem dC_copy_90 : decode mC_copy.2.1 90 = .ok (.iload_n 1, 1) := by decide +kernel
theorem dC_copy_91 : decode mC_copy.2.1 91 = .ok (.iload_n 2, 1) := by decide +kernel
theorem dC_copy_92 : decode mC_copy.2.1 92 = .ok (.iload 5, 2) := by decide +kernel
theorem dC_copy_94 : decode mC_copy.2.1 94 = .ok (.invokevirtual 72, 3) := by decide +kernel
theorem dC_copy_97 : decode mC_copy.2.1 97 = .ok (.ifCond .eq 18, 3) := by decide +kernel
theorem dC_copy_100 : decode mC_copy.2.1 100 = .ok (.aload_n 0, 1) := by decide +kernel
theorem dC_copy_101 : decode mC_copy.2.1 101 = .ok (.getfield 21, 3) := by decide +kernel
theorem dC_copy_104 : decode mC_copy.2.1 104 = .ok (.iload_n 3, 1) := by decide +kernel
theorem dC_copy_105 : decode mC_copy.2.1 105 = .ok (.iload 4, 2) := by decide +kernel
theorem dC_copy_107 : decode mC_copy.2.1 107 = .ok (.iload 5, 2) := by decide +kernel
theorem dC_copy_109 : decode mC_copy.2.1 109 = .ok (.invokevirtual 72, 3) := by decide +kernel
theorem dC_copy_112 : decode mC_copy.2.1 112 = .ok (.ifCond .ne 9, 3) := by decide +kernel
theorem dC_copy_115 : decode mC_copy.2.1 115 = .ok (.aload_n 0, 1) := by decide +kernel
theorem dC_copy_116 : decode mC_copy.2.1 116 = .ok (.iconst 3, 1) := by decide +kernel
theorem dC_copy_117 : decode mC_copy.2.1 117 = .ok (.invokevirtual 68, 3) := by decide +kernel
theorem dC_copy_120 : decode mC_copy.2.1 120 = .ok (.ireturn, 1) := by decide +kernel
theorem dC_copy_121 : decode mC_copy.2.1 121 = .ok (.aload_n 0, 1) := by decide +kernel
theorem dC_copy_122 : decode mC_copy.2.1 122 = .ok (.getfield 21, 3) := by decide +kernel
theorem dC_copy_125 : decode mC_copy.2.1 125 = .ok (.getfield 76, 3) := by decide +kernel
theorem dC_copy_128 : decode mC_copy.2.1 128 = .ok (.iload_n 1, 1) := by decide +kernel
theorem dC_copy_129 : decode mC_copy.2.1 129 = .ok (.aaload, 1) := by decide +kernel
theorem dC_copy_130 : decode mC_copy.2.1 130 = .ok (.iload_n 2, 1) := by decide +kernel
theorem dC_copy_131 : decode mC_copy.2.1 131 = .ok (.aload_n 0, 1) := by decide +kernel
theorem dC_copy_132 : decode mC_copy.2.1 132 = .ok (.getfield 21, 3) := by decide +kernel
theorem dC_copy_135 : decode mC_copy.2.1 135 = .ok (.getfield 76, 3) := by decide +kernel
theorem dC_copy_138 : decode mC_copy.2.1 138 = .ok (.iload_n 3, 1) := by decide +kernel
theorem dC_copy_139 : decode mC_copy.2.1 139 = .ok (.aaload, 1) := by decide +kernel
theorem dC_copy_140 : decode mC_copy.2.1 140 = .ok (.iload 4, 2) := by decide +kernel
theorem dC_copy_142 : decode mC_copy.2.1 142 = .ok (.iload 5, 2) := by decide +kernel
theorem dC_copy_144 : decode mC_copy.2.1 144 = .ok (.invokestatic 217, 3) := by decide +kernel
theorem dC_copy_147 : decode mC_copy.2.1 147 = .ok (.iload 5, 2) := by decide +kernel
theorem dC_copy_149 : decode mC_copy.2.1 149 = .ok (.ireturn, 1) := by decide +kernel
theorem dC_cut_0 : decode mC_cut.2.1 0 = .ok (.iload_n 1, 1) := by decide +kernel
theorem dC_cut_1 : decode mC_cut.2.1 1 = .ok (.lookupswitch 33 #[(0, 27), (1, 30)], 27) := by decide +kernel
theorem dC_cut_28 : decode mC_cut.2.1 28 = .ok (.iload_n 0, 1) := by decide +kernel
theorem dC_cut_29 : decode mC_cut.2.1 29 = .ok (.i2b, 1) := by decide +kernel
theorem dC_cut_30 : decode mC_cut.2.1 30 = .ok (.ireturn, 1) := by decide +kernel
theorem dC_cut_31 : decode mC_cut.2.1 31 = .ok (.iload_n 0, 1) := by decide +kernel
theorem dC_cut_32 : decode mC_cut.2.1 32 = .ok (.i2s, 1) := by decide +kernel
theorem dC_cut_33 : decode mC_cut.2.1 33 = .ok (.ireturn, 1) := by decide +kernel
theorem dC_cut_34 : decode mC_cut.2.1 34 = .ok (.iload_n 0, 1) := by decide +kernel
theorem dC_cut_35 : decode mC_cut.2.1 35 = .ok (.ireturn, 1) := by decide +kernel
theorem dC_dull_0 : decode mC_dull.2.1 0 = .ok (.aload_n 0, 1) := by decide +kernel
theorem dC_dull_1 : decode mC_dull.2.1 1 = .ok (.getfield 12, 3) := by decide +kernel
theorem dC_dull_4 : decode mC_dull.2.1 4 = .ok (.iload_n 1, 1) := by decide +kernel
theorem dC_dull_5 : decode mC_dull.2.1 5 = .ok (.invokevirtual 101, 3) := by decide +kernel
theorem dC_dull_8 : decode mC_dull.2.1 8 = .ok (.ifCond .ne 5, 3) := by decide +kernel
theorem dC_dull_11 : decode mC_dull.2.1 11 = .ok (.iconst (-1), 1) := by decide +kernel
theorem dC_dull_12 : decode mC_dull.2.1 12 = .ok (.ireturn, 1) := by decide +kernel
theorem dC_dull_13 : decode mC_dull.2.1 13 = .ok (.bipush (-9), 2) := by decide +kernel
theorem dC_dull_15 : decode mC_dull.2.1 15 = .ok (.istore_n 2, 1) := by decide +kernel
theorem dC_dull_16 : decode mC_dull.2.1 16 = .ok (.iconst (-1), 1) := by decide +kernel
theorem dC_dull_17 : decode mC_dull.2.1 17 = .ok (.istore_n 3, 1) := by decide +kernel
theorem dC_dull_18 : decode mC_dull.2.1 18 = .ok (.iconst 0, 1) := by decide +kernel
theorem dC_dull_19 : decode mC_dull.2.1 19 = .ok (.istore 4, 2) := by decide +kernel
theorem dC_dull_21 : decode mC_dull.2.1 21 = .ok (.iload 4, 2) := by decide +kernel
theorem dC_dull_23 : decode mC_dull.2.1 23 = .ok (.aload_n 0, 1) := by decide +kernel
theorem dC_dull_24 : decode mC_dull.2.1 24 = .ok (.getfield 12, 3) := by decide +kernel
theorem dC_dull_27 : decode mC_dull.2.1 27 = .ok (.getfield 169, 3) := by decide +kernel
theorem dC_dull_30 : decode mC_dull.2.1 30 = .ok (.if_icmp .ge 45, 3) := by decide +kernel
theorem dC_dull_33 : decode mC_dull.2.1 33 = .ok (.aload_n 0, 1) := by decide +kernel
theorem dC_dull_34 : decode mC_dull.2.1 34 = .ok (.getfield 12, 3) := by decide +kernel
theorem dC_dull_37 : decode mC_dull.2.1 37 = .ok (.iload_n 1, 1) := by decide +kernel
theorem dC_dull_38 : decode mC_dull.2.1 38 = .ok (.iload 4, 2) := by decide +kernel
theorem dC_dull_40 : decode mC_dull.2.1 40 = .ok (.invokevirtual 139, 3) := by decide +kernel
theorem dC_dull_43 : decode mC_dull.2.1 43 = .ok (.istore 5, 2) := by decide +kernel
theorem dC_dull_45 : decode mC_dull.2.1 45 = .ok (.iload 5, 2) := by decide +kernel
theorem dC_dull_47 : decode mC_dull.2.1 47 = .ok (.aload_n 0, 1) := by decide +kernel
theorem dC_dull_48 : decode mC_dull.2.1 48 = .ok (.getfield 12, 3) := by decide +kernel
theorem dC_dull_51 : decode mC_dull.2.1 51 = .ok (.getfield 130, 3) := by decide +kernel
theorem dC_dull_54 : decode mC_dull.2.1 54 = .ok (.if_icmp .ge 15, 3) := by decide +kernel
theorem dC_dull_57 : decode mC_dull.2.1 57 = .ok (.iload 5, 2) := by decide +kernel
theorem dC_dull_59 : decode mC_dull.2.1 59 = .ok (.iload_n 3, 1) := by decide +kernel
theorem dC_dull_60 : decode mC_dull.2.1 60 = .ok (.if_icmp .le 9, 3) := by decide +kernel
theorem dC_dull_63 : decode mC_dull.2.1 63 = .ok (.iload 5, 2) := by decide +kernel
theorem dC_dull_65 : decode mC_dull.2.1 65 = .ok (.istore_n 3, 1) := by decide +kernel
theorem dC_dull_66 : decode mC_dull.2.1 66 = .ok (.iload 4, 2) := by decide +kernel
theorem dC_dull_68 : decode mC_dull.2.1 68 = .ok (.istore_n 2, 1) := by decide +kernel
theorem dC_dull_69 : decode mC_dull.2.1 69 = .ok (.iinc 4 1, 3) := by decide +kernel
theorem dC_dull_72 : decode mC_dull.2.1 72 = .ok (.goto (-51), 3) := by decide +kernel
theorem dC_dull_75 : decode mC_dull.2.1 75 = .ok (.iload_n 2, 1) := by decide +kernel
theorem dC_dull_76 : decode mC_dull.2.1 76 = .ok (.ireturn, 1) := by decide +kernel
theorem dC_fault_0 : decode mC_fault.2.1 0 = .ok (.aload_n 0, 1) := by decide +kernel
theorem dC_fault_1 : decode mC_fault.2.1 1 = .ok (.getfield 53, 3) := by decide +kernel
theorem dC_fault_4 : decode mC_fault.2.1 4 = .ok (.ireturn, 1) := by decide +kernel
theorem dC_faulty_0 : decode mC_faulty.2.1 0 = .ok (.aload_n 0, 1) := by decide +kernel
theorem dC_faulty_1 : decode mC_faulty.2.1 1 = .ok (.iload_n 1, 1) := by decide +kernel
theorem dC_faulty_2 : decode mC_faulty.2.1 2 = .ok (.putfield 53, 3) := by decide +kernel
theorem dC_faulty_5 : decode mC_faulty.2.1 5 = .ok (.bipush (-10), 2) := by decide +kernel
theorem dC_faulty_7 : decode mC_faulty.2.1 7 = .ok (.iload_n 1, 1) := by decide +kernel
theorem dC_faulty_8 : decode mC_faulty.2.1 8 = .ok (.isub, 1) := by decide +kernel
theorem dC_faulty_9 : decode mC_faulty.2.1 9 = .ok (.ireturn, 1) := by decide +kernel
theorem dC_fewest_0 : decode mC_fewest.2.1 0 = .ok (.iload_n 1, 1) := by decide +kernel
theorem dC_fewest_1 : decode mC_fewest.2.1 1 = .ok (.iconst (-1), 1) := by decide +kernel
theorem dC_fewest_2 : decode mC_fewest.2.1 2 = .ok (.if_icmp .ge 5, 3) := by decide +kernel
theorem dC_fewest_5 : decode mC_fewest.2.1 5 = .ok (.iconst (-1), 1) := by decide +kernel
theorem dC_fewest_6 : decode mC_fewest.2.1 6 = .ok (.ireturn, 1) := by decide +kernel
theorem dC_fewest_7 : decode mC_fewest.2.1 7 = .ok (.aload_n 0, 1) := by decide +kernel
theorem dC_fewest_8 : decode mC_fewest.2.1 8 = .ok (.getfield 12, 3) := by decide +kernel
theorem dC_fewest_11 : decode mC_fewest.2.1 11 = .ok (.invokevirtual 126, 3) := by decide +kernel
theorem dC_fewest_14 : decode mC_fewest.2.1 14 = .ok (.ifCond .ne 6, 3) := by decide +kernel
theorem dC_fewest_17 : decode mC_fewest.2.1 17 = .ok (.bipush (-3), 2) := by decide +kernel
theorem dC_fewest_19 : decode mC_fewest.2.1 19 = .ok (.ireturn, 1) := by decide +kernel
theorem dC_fewest_20 : decode mC_fewest.2.1 20 = .ok (.iload_n 1, 1) := by decide +kernel
theorem dC_fewest_21 : decode mC_fewest.2.1 21 = .ok (.aload_n 0, 1) := by decide +kernel
theorem dC_fewest_22 : decode mC_fewest.2.1 22 = .ok (.getfield 12, 3) := by decide +kernel
theorem dC_fewest_25 : decode mC_fewest.2.1 25 = .ok (.getfield 100, 3) := by decide +kernel
theorem dC_fewest_28 : decode mC_fewest.2.1 28 = .ok (.if_icmp .ge 17, 3) := by decide +kernel
theorem dC_fewest_31 : decode mC_fewest.2.1 31 = .ok (.aload_n 0, 1) := by decide +kernel
theorem dC_fewest_32 : decode mC_fewest.2.1 32 = .ok (.getfield 42, 3) := by decide +kernel
theorem dC_fewest_35 : decode mC_fewest.2.1 35 = .ok (.aload_n 0, 1) := by decide +kernel
theorem dC_fewest_36 : decode mC_fewest.2.1 36 = .ok (.getfield 12, 3) := by decide +kernel
theorem dC_fewest_39 : decode mC_fewest.2.1 39 = .ok (.invokevirtual 173, 3) := by decide +kernel
theorem dC_fewest_42 : decode mC_fewest.2.1 42 = .ok (.ifCond .ne 6, 3) := by decide +kernel
theorem dC_fewest_45 : decode mC_fewest.2.1 45 = .ok (.bipush (-9), 2) := by decide +kernel
theorem dC_fewest_47 : decode mC_fewest.2.1 47 = .ok (.ireturn, 1) := by decide +kernel
theorem dC_fewest_48 : decode mC_fewest.2.1 48 = .ok (.iload_n 1, 1) := by decide +kernel
theorem dC_fewest_49 : decode mC_fewest.2.1 49 = .ok (.ifCond .ge 13, 3) := by decide +kernel
theorem dC_fewest_52 : decode mC_fewest.2.1 52 = .ok (.aload_n 0, 1) := by decide +kernel
theorem dC_fewest_53 : decode mC_fewest.2.1 53 = .ok (.getfield 42, 3) := by decide +kernel
theorem dC_fewest_56 : decode mC_fewest.2.1 56 = .ok (.getfield 177, 3) := by decide +kernel
theorem dC_fewest_59 : decode mC_fewest.2.1 59 = .ok (.goto 12, 3) := by decide +kernel
theorem dC_fewest_62 : decode mC_fewest.2.1 62 = .ok (.aload_n 0, 1) := by decide +kernel
theorem dC_fewest_63 : decode mC_fewest.2.1 63 = .ok (.getfield 42, 3) := by decide +kernel
theorem dC_fewest_66 : decode mC_fewest.2.1 66 = .ok (.getfield 180, 3) := by decide +kernel
theorem dC_fewest_69 : decode mC_fewest.2.1 69 = .ok (.iload_n 1, 1) := by decide +kernel
theorem dC_fewest_70 : decode mC_fewest.2.1 70 = .ok (.iaload, 1) := by decide +kernel
theorem dC_fewest_71 : decode mC_fewest.2.1 71 = .ok (.ireturn, 1) := by decide +kernel
theorem dC_firstOf_0 : decode mC_firstOf.2.1 0 = .ok (.iconst 0, 1) := by decide +kernel
theorem dC_firstOf_1 : decode mC_firstOf.2.1 1 = .ok (.istore_n 1, 1) := by decide +kernel
theorem dC_firstOf_2 : decode mC_firstOf.2.1 2 = .ok (.iload_n 1, 1) := by decide +kernel
theorem dC_firstOf_3 : decode mC_firstOf.2.1 3 = .ok (.bipush 6, 2) := by decide +kernel
theorem dC_firstOf_5 : decode mC_firstOf.2.1 5 = .ok (.if_icmp .ge 17, 3) := by decide +kernel
theorem dC_firstOf_8 : decode mC_firstOf.2.1 8 = .ok (.iload_n 0, 1) := by decide +kernel
theorem dC_firstOf_9 : decode mC_firstOf.2.1 9 = .ok (.iload_n 1, 1) := by decide +kernel
theorem dC_firstOf_10 : decode mC_firstOf.2.1 10 = .ok (.ishr, 1) := by decide +kernel
theorem dC_firstOf_11 : decode mC_firstOf.2.1 11 = .ok (.iconst 1, 1) := by decide +kernel
theorem dC_firstOf_12 : decode mC_firstOf.2.1 12 = .ok (.iand, 1) := by decide +kernel
theorem dC_firstOf_13 : decode mC_firstOf.2.1 13 = .ok (.ifCond .ne 9, 3) := by decide +kernel
theorem dC_firstOf_16 : decode mC_firstOf.2.1 16 = .ok (.iinc 1 1, 3) := by decide +kernel
theorem dC_firstOf_19 : decode mC_firstOf.2.1 19 = .ok (.goto (-17), 3) := by decide +kernel
theorem dC_firstOf_22 : decode mC_firstOf.2.1 22 = .ok (.iload_n 1, 1) := by decide +kernel
theorem dC_firstOf_23 : decode mC_firstOf.2.1 23 = .ok (.ireturn, 1) := by decide +kernel
theorem dC_fitting_0 : decode mC_fitting.2.1 0 = .ok (.aload_n 1, 1) := by decide +kernel
theorem dC_fitting_1 : decode mC_fitting.2.1 1 = .ok (.iload_n 2, 1) := by decide +kernel
theorem dC_fitting_2 : decode mC_fitting.2.1 2 = .ok (.iaload, 1) := by decide +kernel
theorem dC_fitting_3 : decode mC_fitting.2.1 3 = .ok (.istore 4, 2) := by decide +kernel
theorem dC_fitting_5 : decode mC_fitting.2.1 5 = .ok (.iconst 0, 1) := by decide +kernel
theorem dC_fitting_6 : decode mC_fitting.2.1 6 = .ok (.istore 5, 2) := by decide +kernel
theorem dC_fitting_8 : decode mC_fitting.2.1 8 = .ok (.iconst 0, 1) := by decide +kernel
theorem dC_fitting_9 : decode mC_fitting.2.1 9 = .ok (.istore 6, 2) := by decide +kernel
theorem dC_fitting_11 : decode mC_fitting.2.1 11 = .ok (.iload 6, 2) := by decide +kernel
theorem dC_fitting_13 : decode mC_fitting.2.1 13 = .ok (.iload_n 3, 1) := by decide +kernel
theorem dC_fitting_14 : decode mC_fitting.2.1 14 = .ok (.if_icmp .ge 37, 3) := by decide +kernel
theorem dC_fitting_17 : decode mC_fitting.2.1 17 = .ok (.aload_n 1, 1) := by decide +kernel
theorem dC_fitting_18 : decode mC_fitting.2.1 18 = .ok (.iload_n 2, 1) := by decide +kernel
theorem dC_fitting_19 : decode mC_fitting.2.1 19 = .ok (.iload 6, 2) := by decide +kernel
theorem dC_fitting_21 : decode mC_fitting.2.1 21 = .ok (.iastore, 1) := by decide +kernel
theorem dC_fitting_22 : decode mC_fitting.2.1 22 = .ok (.aload_n 0, 1) := by decide +kernel
theorem dC_fitting_23 : decode mC_fitting.2.1 23 = .ok (.getfield 49, 3) := by decide +kernel
theorem dC_fitting_26 : decode mC_fitting.2.1 26 = .ok (.aload_n 0, 1) := by decide +kernel
theorem dC_fitting_27 : decode mC_fitting.2.1 27 = .ok (.getfield 12, 3) := by decide +kernel
theorem dC_fitting_30 : decode mC_fitting.2.1 30 = .ok (.invokevirtual 187, 3) := by decide +kernel
theorem dC_fitting_33 : decode mC_fitting.2.1 33 = .ok (.ifCond .eq 12, 3) := by decide +kernel
theorem dC_fitting_36 : decode mC_fitting.2.1 36 = .ok (.iload 5, 2) := by decide +kernel
theorem dC_fitting_38 : decode mC_fitting.2.1 38 = .ok (.iconst 1, 1) := by decide +kernel
theorem dC_fitting_39 : decode mC_fitting.2.1 39 = .ok (.iload 6, 2) := by decide +kernel
theorem dC_fitting_41 : decode mC_fitting.2.1 41 = .ok (.ishl, 1) := by decide +kernel
theorem dC_fitting_42 : decode mC_fitting.2.1 42 = .ok (.ior, 1) := by decide +kernel
theorem dC_fitting_43 : decode mC_fitting.2.1 43 = .ok (.istore 5, 2) := by decide +kernel
theorem dC_fitting_45 : decode mC_fitting.2.1 45 = .ok (.iinc 6 1, 3) := by decide +kernel
theorem dC_fitting_48 : decode mC_fitting.2.1 48 = .ok (.goto (-37), 3) := by decide +kernel
theorem dC_fitting_51 : decode mC_fitting.2.1 51 = .ok (.aload_n 1, 1) := by decide +kernel
theorem dC_fitting_52 : decode mC_fitting.2.1 52 = .ok (.iload_n 2, 1) := by decide +kernel
theorem dC_fitting_53 : decode mC_fitting.2.1 53 = .ok (.iload 4, 2) := by decide +kernel
theorem dC_fitting_55 : decode mC_fitting.2.1 55 = .ok (.iastore, 1) := by decide +kernel
theorem dC_fitting_56 : decode mC_fitting.2.1 56 = .ok (.iload 5, 2) := by decide +kernel
theorem dC_fitting_58 : decode mC_fitting.2.1 58 = .ok (.ireturn, 1) := by decide +kernel
theorem dC_greet_0 : decode mC_greet.2.1 0 = .ok (.aload_n 0, 1) := by decide +kernel
theorem dC_greet_1 : decode mC_greet.2.1 1 = .ok (.getfield 12, 3) := by decide +kernel
theorem dC_greet_4 : decode mC_greet.2.1 4 = .ok (.iload_n 1, 1) := by decide +kernel
theorem dC_greet_5 : decode mC_greet.2.1 5 = .ok (.invokevirtual 101, 3) := by decide +kernel
theorem dC_greet_8 : decode mC_greet.2.1 8 = .ok (.ifCond .ne 5, 3) := by decide +kernel
theorem dC_greet_11 : decode mC_greet.2.1 11 = .ok (.iconst (-1), 1) := by decide +kernel
theorem dC_greet_12 : decode mC_greet.2.1 12 = .ok (.ireturn, 1) := by decide +kernel
theorem dC_greet_13 : decode mC_greet.2.1 13 = .ok (.aload_n 0, 1) := by decide +kernel
theorem dC_greet_14 : decode mC_greet.2.1 14 = .ok (.getfield 12, 3) := by decide +kernel
theorem dC_greet_17 : decode mC_greet.2.1 17 = .ok (.getfield 104, 3) := by decide +kernel
theorem dC_greet_20 : decode mC_greet.2.1 20 = .ok (.iload_n 1, 1) := by decide +kernel
theorem dC_greet_21 : decode mC_greet.2.1 21 = .ok (.iaload, 1) := by decide +kernel
theorem dC_greet_22 : decode mC_greet.2.1 22 = .ok (.iconst 2, 1) := by decide +kernel
theorem dC_greet_23 : decode mC_greet.2.1 23 = .ok (.if_icmp .ne 11, 3) := by decide +kernel
theorem dC_greet_26 : decode mC_greet.2.1 26 = .ok (.aload_n 0, 1) := by decide +kernel
theorem dC_greet_27 : decode mC_greet.2.1 27 = .ok (.iconst 5, 1) := by decide +kernel
theorem dC_greet_28 : decode mC_greet.2.1 28 = .ok (.invokevirtual 232, 3) := by decide +kernel
theorem dC_greet_31 : decode mC_greet.2.1 31 = .ok (.bipush 50, 2) := by decide +kernel
theorem dC_greet_33 : decode mC_greet.2.1 33 = .ok (.ireturn, 1) := by decide +kernel
theorem dC_greet_34 : decode mC_greet.2.1 34 = .ok (.aload_n 0, 1) := by decide +kernel
theorem dC_greet_35 : decode mC_greet.2.1 35 = .ok (.iconst 4, 1) := by decide +kernel
theorem dC_greet_36 : decode mC_greet.2.1 36 = .ok (.invokevirtual 232, 3) := by decide +kernel
theorem dC_greet_39 : decode mC_greet.2.1 39 = .ok (.iload_n 1, 1) := by decide +kernel
theorem dC_greet_40 : decode mC_greet.2.1 40 = .ok (.ireturn, 1) := by decide +kernel
theorem dC_hotel_0 : decode mC_hotel.2.1 0 = .ok (.aload_n 0, 1) := by decide +kernel
theorem dC_hotel_1 : decode mC_hotel.2.1 1 = .ok (.iconst 0, 1) := by decide +kernel
theorem dC_hotel_2 : decode mC_hotel.2.1 2 = .ok (.putfield 53, 3) := by decide +kernel
theorem dC_hotel_5 : decode mC_hotel.2.1 5 = .ok (.aload_n 0, 1) := by decide +kernel
theorem dC_hotel_6 : decode mC_hotel.2.1 6 = .ok (.getfield 21, 3) := by decide +kernel
theorem dC_hotel_9 : decode mC_hotel.2.1 9 = .ok (.iload_n 1, 1) := by decide +kernel
theorem dC_hotel_10 : decode mC_hotel.2.1 10 = .ok (.invokevirtual 57, 3) := by decide +kernel
theorem dC_hotel_13 : decode mC_hotel.2.1 13 = .ok (.ifCond .ne 5, 3) := by decide +kernel
theorem dC_hotel_16 : decode mC_hotel.2.1 16 = .ok (.iconst (-1), 1) := by decide +kernel
theorem dC_hotel_17 : decode mC_hotel.2.1 17 = .ok (.ireturn, 1) := by decide +kernel
theorem dC_hotel_18 : decode mC_hotel.2.1 18 = .ok (.iload_n 2, 1) := by decide +kernel
theorem dC_hotel_19 : decode mC_hotel.2.1 19 = .ok (.invokestatic 61, 3) := by decide +kernel
theorem dC_hotel_22 : decode mC_hotel.2.1 22 = .ok (.ifCond .ne 6, 3) := by decide +kernel
theorem dC_hotel_25 : decode mC_hotel.2.1 25 = .ok (.bipush (-2), 2) := by decide +kernel
theorem dC_hotel_27 : decode mC_hotel.2.1 27 = .ok (.ireturn, 1) := by decide +kernel
theorem dC_hotel_28 : decode mC_hotel.2.1 28 = .ok (.aload_n 0, 1) := by decide +kernel
theorem dC_hotel_29 : decode mC_hotel.2.1 29 = .ok (.getfield 21, 3) := by decide +kernel
theorem dC_hotel_32 : decode mC_hotel.2.1 32 = .ok (.iload_n 1, 1) := by decide +kernel
theorem dC_hotel_33 : decode mC_hotel.2.1 33 = .ok (.iload_n 2, 1) := by decide +kernel
theorem dC_hotel_34 : decode mC_hotel.2.1 34 = .ok (.invokevirtual 64, 3) := by decide +kernel
theorem dC_hotel_37 : decode mC_hotel.2.1 37 = .ok (.istore 5, 2) := by decide +kernel
theorem dC_hotel_39 : decode mC_hotel.2.1 39 = .ok (.iload 5, 2) := by decide +kernel
theorem dC_hotel_41 : decode mC_hotel.2.1 41 = .ok (.ifCond .eq 10, 3) := by decide +kernel
theorem dC_hotel_44 : decode mC_hotel.2.1 44 = .ok (.aload_n 0, 1) := by decide +kernel
theorem dC_hotel_45 : decode mC_hotel.2.1 45 = .ok (.iload 5, 2) := by decide +kernel
theorem dC_hotel_47 : decode mC_hotel.2.1 47 = .ok (.invokevirtual 68, 3) := by decide +kernel
theorem dC_hotel_50 : decode mC_hotel.2.1 50 = .ok (.ireturn, 1) := by decide +kernel
theorem dC_hotel_51 : decode mC_hotel.2.1 51 = .ok (.iload 4, 2) := by decide +kernel
theorem dC_hotel_53 : decode mC_hotel.2.1 53 = .ok (.ifCond .ge 9, 3) := by decide +kernel
theorem dC_hotel_56 : decode mC_hotel.2.1 56 = .ok (.aload_n 0, 1) := by decide +kernel
theorem dC_hotel_57 : decode mC_hotel.2.1 57 = .ok (.iconst 4, 1) := by decide +kernel
theorem dC_hotel_58 : decode mC_hotel.2.1 58 = .ok (.invokevirtual 68, 3) := by decide +kernel
theorem dC_hotel_61 : decode mC_hotel.2.1 61 = .ok (.ireturn, 1) := by decide +kernel
theorem dC_hotel_62 : decode mC_hotel.2.1 62 = .ok (.aload_n 0, 1) := by decide +kernel
theorem dC_hotel_63 : decode mC_hotel.2.1 63 = .ok (.getfield 21, 3) := by decide +kernel
theorem dC_hotel_66 : decode mC_hotel.2.1 66 = .ok (.iload_n 1, 1) := by decide +kernel
theorem dC_hotel_67 : decode mC_hotel.2.1 67 = .ok (.iload_n 3, 1) := by decide +kernel
theorem dC_hotel_68 : decode mC_hotel.2.1 68 = .ok (.iload 4, 2) := by decide +kernel
theorem dC_hotel_70 : decode mC_hotel.2.1 70 = .ok (.invokevirtual 72, 3) := by decide +kernel
theorem dC_hotel_73 : decode mC_hotel.2.1 73 = .ok (.ifCond .ne 9, 3) := by decide +kernel
theorem dC_hotel_76 : decode mC_hotel.2.1 76 = .ok (.aload_n 0, 1) := by decide +kernel
theorem dC_hotel_77 : decode mC_hotel.2.1 77 = .ok (.iconst 3, 1) := by decide +kernel
theorem dC_hotel_78 : decode mC_hotel.2.1 78 = .ok (.invokevirtual 68, 3) := by decide +kernel
theorem dC_hotel_81 : decode mC_hotel.2.1 81 = .ok (.ireturn, 1) := by decide +kernel
theorem dC_hotel_82 : decode mC_hotel.2.1 82 = .ok (.aload_n 0, 1) := by decide +kernel
theorem dC_hotel_83 : decode mC_hotel.2.1 83 = .ok (.getfield 21, 3) := by decide +kernel
theorem dC_hotel_86 : decode mC_hotel.2.1 86 = .ok (.getfield 76, 3) := by decide +kernel
theorem dC_hotel_89 : decode mC_hotel.2.1 89 = .ok (.iload_n 1, 1) := by decide +kernel
theorem dC_hotel_90 : decode mC_hotel.2.1 90 = .ok (.aaload, 1) := by decide +kernel
theorem dC_hotel_91 : decode mC_hotel.2.1 91 = .ok (.astore 6, 2) := by decide +kernel
theorem dC_hotel_93 : decode mC_hotel.2.1 93 = .ok (.aload_n 0, 1) := by decide +kernel
theorem dC_hotel_94 : decode mC_hotel.2.1 94 = .ok (.getfield 28, 3) := by decide +kernel
theorem dC_hotel_97 : decode mC_hotel.2.1 97 = .ok (.aload 6, 2) := by decide +kernel
theorem dC_hotel_99 : decode mC_hotel.2.1 99 = .ok (.iload_n 3, 1) := by decide +kernel
theorem dC_hotel_100 : decode mC_hotel.2.1 100 = .ok (.iload 4, 2) := by decide +kernel
theorem dC_hotel_102 : decode mC_hotel.2.1 102 = .ok (.invokevirtual 80, 3) := by decide +kernel
theorem dC_hotel_105 : decode mC_hotel.2.1 105 = .ok (.ifCond .ne 14, 3) := by decide +kernel
theorem dC_hotel_108 : decode mC_hotel.2.1 108 = .ok (.bipush (-100), 2) := by decide +kernel
theorem dC_hotel_110 : decode mC_hotel.2.1 110 = .ok (.aload_n 0, 1) := by decide +kernel
theorem dC_hotel_111 : decode mC_hotel.2.1 111 = .ok (.getfield 28, 3) := by decide +kernel
theorem dC_hotel_114 : decode mC_hotel.2.1 114 = .ok (.getfield 84, 3) := by decide +kernel
theorem dC_hotel_117 : decode mC_hotel.2.1 117 = .ok (.isub, 1) := by decide +kernel
theorem dC_hotel_118 : decode mC_hotel.2.1 118 = .ok (.ireturn, 1) := by decide +kernel
theorem dC_hotel_119 : decode mC_hotel.2.1 119 = .ok (.aload_n 0, 1) := by decide +kernel
theorem dC_hotel_120 : decode mC_hotel.2.1 120 = .ok (.getfield 12, 3) := by decide +kernel
theorem dC_hotel_123 : decode mC_hotel.2.1 123 = .ok (.aload 6, 2) := by decide +kernel
theorem dC_hotel_125 : decode mC_hotel.2.1 125 = .ok (.iload_n 3, 1) := by decide +kernel
theorem dC_hotel_126 : decode mC_hotel.2.1 126 = .ok (.aload_n 0, 1) := by decide +kernel
theorem dC_hotel_127 : decode mC_hotel.2.1 127 = .ok (.getfield 28, 3) := by decide +kernel
theorem dC_hotel_130 : decode mC_hotel.2.1 130 = .ok (.getfield 87, 3) := by decide +kernel
theorem dC_hotel_133 : decode mC_hotel.2.1 133 = .ok (.aload_n 0, 1) := by decide +kernel
theorem dC_hotel_134 : decode mC_hotel.2.1 134 = .ok (.getfield 28, 3) := by decide +kernel
theorem dC_hotel_137 : decode mC_hotel.2.1 137 = .ok (.getfield 90, 3) := by decide +kernel
theorem dC_hotel_140 : decode mC_hotel.2.1 140 = .ok (.invokevirtual 93, 3) := by decide +kernel
theorem dC_hotel_143 : decode mC_hotel.2.1 143 = .ok (.aload_n 0, 1) := by decide +kernel
theorem dC_hotel_144 : decode mC_hotel.2.1 144 = .ok (.getfield 49, 3) := by decide +kernel
theorem dC_hotel_147 : decode mC_hotel.2.1 147 = .ok (.iconst 0, 1) := by decide +kernel
theorem dC_hotel_148 : decode mC_hotel.2.1 148 = .ok (.putfield 97, 3) := by decide +kernel
theorem dC_hotel_151 : decode mC_hotel.2.1 151 = .ok (.aload_n 0, 1) := by decide +kernel
theorem dC_hotel_152 : decode mC_hotel.2.1 152 = .ok (.getfield 12, 3) := by decide +kernel
theorem dC_hotel_155 : decode mC_hotel.2.1 155 = .ok (.getfield 100, 3) := by decide +kernel
theorem dC_hotel_158 : decode mC_hotel.2.1 158 = .ok (.ireturn, 1) := by decide +kernel
theorem dC_init_0 : decode mC_init.2.1 0 = .ok (.aload_n 0, 1) := by decide +kernel
theorem dC_init_1 : decode mC_init.2.1 1 = .ok (.invokespecial 3, 3) := by decide +kernel
theorem dC_init_4 : decode mC_init.2.1 4 = .ok (.aload_n 0, 1) := by decide +kernel
theorem dC_init_5 : decode mC_init.2.1 5 = .ok (.new 9, 3) := by decide +kernel
theorem dC_init_8 : decode mC_init.2.1 8 = .ok (.dup, 1) := by decide +kernel
theorem dC_init_9 : decode mC_init.2.1 9 = .ok (.invokespecial 11, 3) := by decide +kernel
theorem dC_init_12 : decode mC_init.2.1 12 = .ok (.putfield 12, 3) := by decide +kernel
theorem dC_init_15 : decode mC_init.2.1 15 = .ok (.aload_n 0, 1) := by decide +kernel
theorem dC_init_16 : decode mC_init.2.1 16 = .ok (.new 18, 3) := by decide +kernel
theorem dC_init_19 : decode mC_init.2.1 19 = .ok (.dup, 1) := by decide +kernel
theorem dC_init_20 : decode mC_init.2.1 20 = .ok (.invokespecial 20, 3) := by decide +kernel
theorem dC_init_23 : decode mC_init.2.1 23 = .ok (.putfield 21, 3) := by decide +kernel
theorem dC_init_26 : decode mC_init.2.1 26 = .ok (.aload_n 0, 1) := by decide +kernel
theorem dC_init_27 : decode mC_init.2.1 27 = .ok (.new 25, 3) := by decide +kernel
theorem dC_init_30 : decode mC_init.2.1 30 = .ok (.dup, 1) := by decide +kernel
theorem dC_init_31 : decode mC_init.2.1 31 = .ok (.invokespecial 27, 3) := by decide +kernel
theorem dC_init_34 : decode mC_init.2.1 34 = .ok (.putfield 28, 3) := by decide +kernel
theorem dC_init_37 : decode mC_init.2.1 37 = .ok (.aload_n 0, 1) := by decide +kernel
theorem dC_init_38 : decode mC_init.2.1 38 = .ok (.new 32, 3) := by decide +kernel
theorem dC_init_41 : decode mC_init.2.1 41 = .ok (.dup, 1) := by decide +kernel
theorem dC_init_42 : decode mC_init.2.1 42 = .ok (.invokespecial 34, 3) := by decide +kernel
theorem dC_init_45 : decode mC_init.2.1 45 = .ok (.putfield 35, 3) := by decide +kernel
theorem dC_init_48 : decode mC_init.2.1 48 = .ok (.aload_n 0, 1) := by decide +kernel
theorem dC_init_49 : decode mC_init.2.1 49 = .ok (.new 39, 3) := by decide +kernel
theorem dC_init_52 : decode mC_init.2.1 52 = .ok (.dup, 1) := by decide +kernel
theorem dC_init_53 : decode mC_init.2.1 53 = .ok (.invokespecial 41, 3) := by decide +kernel
theorem dC_init_56 : decode mC_init.2.1 56 = .ok (.putfield 42, 3) := by decide +kernel
theorem dC_init_59 : decode mC_init.2.1 59 = .ok (.aload_n 0, 1) := by decide +kernel
theorem dC_init_60 : decode mC_init.2.1 60 = .ok (.new 46, 3) := by decide +kernel
theorem dC_init_63 : decode mC_init.2.1 63 = .ok (.dup, 1) := by decide +kernel
theorem dC_init_64 : decode mC_init.2.1 64 = .ok (.invokespecial 48, 3) := by decide +kernel
theorem dC_init_67 : decode mC_init.2.1 67 = .ok (.putfield 49, 3) := by decide +kernel
theorem dC_init_70 : decode mC_init.2.1 70 = .ok (.return_, 1) := by decide +kernel
theorem dC_isLane_0 : decode mC_isLane.2.1 0 = .ok (.iload_n 0, 1) := by decide +kernel
theorem dC_isLane_1 : decode mC_isLane.2.1 1 = .ok (.ifCond .lt 12, 3) := by decide +kernel
theorem dC_isLane_4 : decode mC_isLane.2.1 4 = .ok (.iload_n 0, 1) := by decide +kernel
theorem dC_isLane_5 : decode mC_isLane.2.1 5 = .ok (.iconst 3, 1) := by decide +kernel
theorem dC_isLane_6 : decode mC_isLane.2.1 6 = .ok (.if_icmp .ge 7, 3) := by decide +kernel
theorem dC_isLane_9 : decode mC_isLane.2.1 9 = .ok (.iconst 1, 1) := by decide +kernel
theorem dC_isLane_10 : decode mC_isLane.2.1 10 = .ok (.goto 4, 3) := by decide +kernel
theorem dC_isLane_13 : decode mC_isLane.2.1 13 = .ok (.iconst 0, 1) := by decide +kernel
theorem dC_isLane_14 : decode mC_isLane.2.1 14 = .ok (.ireturn, 1) := by decide +kernel
theorem dC_isPairs_0 : decode mC_isPairs.2.1 0 = .ok (.iload_n 0, 1) := by decide +kernel
theorem dC_isPairs_1 : decode mC_isPairs.2.1 1 = .ok (.ifCond .lt 13, 3) := by decide +kernel
theorem dC_isPairs_4 : decode mC_isPairs.2.1 4 = .ok (.iload_n 0, 1) := by decide +kernel
theorem dC_isPairs_5 : decode mC_isPairs.2.1 5 = .ok (.bipush 20, 2) := by decide +kernel
theorem dC_isPairs_7 : decode mC_isPairs.2.1 7 = .ok (.if_icmp .gt 7, 3) := by decide +kernel
theorem dC_isPairs_10 : decode mC_isPairs.2.1 10 = .ok (.iconst 1, 1) := by decide +kernel
theorem dC_isPairs_11 : decode mC_isPairs.2.1 11 = .ok (.goto 4, 3) := by decide +kernel
theorem dC_isPairs_14 : decode mC_isPairs.2.1 14 = .ok (.iconst 0, 1) := by decide +kernel
theorem dC_isPairs_15 : decode mC_isPairs.2.1 15 = .ok (.ireturn, 1) := by decide +kernel
theorem dC_isStars_0 : decode mC_isStars.2.1 0 = .ok (.iload_n 0, 1) := by decide +kernel
theorem dC_isStars_1 : decode mC_isStars.2.1 1 = .ok (.ifCond .lt 12, 3) := by decide +kernel
theorem dC_isStars_4 : decode mC_isStars.2.1 4 = .ok (.iload_n 0, 1) := by decide +kernel
theorem dC_isStars_5 : decode mC_isStars.2.1 5 = .ok (.iconst 5, 1) := by decide +kernel
theorem dC_isStars_6 : decode mC_isStars.2.1 6 = .ok (.if_icmp .gt 7, 3) := by decide +kernel
theorem dC_isStars_9 : decode mC_isStars.2.1 9 = .ok (.iconst 1, 1) := by decide +kernel
theorem dC_isStars_10 : decode mC_isStars.2.1 10 = .ok (.goto 4, 3) := by decide +kernel
theorem dC_isStars_13 : decode mC_isStars.2.1 13 = .ok (.iconst 0, 1) := by decide +kernel
theorem dC_isStars_14 : decode mC_isStars.2.1 14 = .ok (.ireturn, 1) := by decide +kernel
theorem dC_kinds_0 : decode mC_kinds.2.1 0 = .ok (.aload_n 0, 1) := by decide +kernel
theorem dC_kinds_1 : decode mC_kinds.2.1 1 = .ok (.getfield 12, 3) := by decide +kernel
theorem dC_kinds_4 : decode mC_kinds.2.1 4 = .ok (.iload_n 1, 1) := by decide +kernel
theorem dC_kinds_5 : decode mC_kinds.2.1 5 = .ok (.invokevirtual 101, 3) := by decide +kernel
theorem dC_kinds_8 : decode mC_kinds.2.1 8 = .ok (.ifCond .ne 5, 3) := by decide +kernel
theorem dC_kinds_11 : decode mC_kinds.2.1 11 = .ok (.iconst (-1), 1) := by decide +kernel
theorem dC_kinds_12 : decode mC_kinds.2.1 12 = .ok (.ireturn, 1) := by decide +kernel
theorem dC_kinds_13 : decode mC_kinds.2.1 13 = .ok (.aload_n 0, 1) := by decide +kernel
theorem dC_kinds_14 : decode mC_kinds.2.1 14 = .ok (.aload_n 0, 1) := by decide +kernel
theorem dC_kinds_15 : decode mC_kinds.2.1 15 = .ok (.getfield 12, 3) := by decide +kernel
theorem dC_kinds_18 : decode mC_kinds.2.1 18 = .ok (.getfield 104, 3) := by decide +kernel
theorem dC_kinds_21 : decode mC_kinds.2.1 21 = .ok (.iload_n 1, 1) := by decide +kernel
theorem dC_kinds_22 : decode mC_kinds.2.1 22 = .ok (.iconst 3, 1) := by decide +kernel
theorem dC_kinds_23 : decode mC_kinds.2.1 23 = .ok (.invokevirtual 190, 3) := by decide +kernel
theorem dC_kinds_26 : decode mC_kinds.2.1 26 = .ok (.ireturn, 1) := by decide +kernel
theorem dC_leave_0 : decode mC_leave.2.1 0 = .ok (.aload_n 0, 1) := by decide +kernel
theorem dC_leave_1 : decode mC_leave.2.1 1 = .ok (.bipush 31, 2) := by decide +kernel
theorem dC_leave_3 : decode mC_leave.2.1 3 = .ok (.aload_n 0, 1) := by decide +kernel
theorem dC_leave_4 : decode mC_leave.2.1 4 = .ok (.getfield 236, 3) := by decide +kernel
theorem dC_leave_7 : decode mC_leave.2.1 7 = .ok (.imul, 1) := by decide +kernel
theorem dC_leave_8 : decode mC_leave.2.1 8 = .ok (.iload_n 1, 1) := by decide +kernel
theorem dC_leave_9 : decode mC_leave.2.1 9 = .ok (.iadd, 1) := by decide +kernel
theorem dC_leave_10 : decode mC_leave.2.1 10 = .ok (.putfield 236, 3) := by decide +kernel
theorem dC_leave_13 : decode mC_leave.2.1 13 = .ok (.return_, 1) := by decide +kernel
theorem dC_limits_0 : decode mC_limits.2.1 0 = .ok (.aload_n 0, 1) := by decide +kernel
theorem dC_limits_1 : decode mC_limits.2.1 1 = .ok (.getfield 12, 3) := by decide +kernel
theorem dC_limits_4 : decode mC_limits.2.1 4 = .ok (.invokevirtual 126, 3) := by decide +kernel
theorem dC_limits_7 : decode mC_limits.2.1 7 = .ok (.ifCond .ne 6, 3) := by decide +kernel
theorem dC_limits_10 : decode mC_limits.2.1 10 = .ok (.bipush (-3), 2) := by decide +kernel
theorem dC_limits_12 : decode mC_limits.2.1 12 = .ok (.ireturn, 1) := by decide +kernel
theorem dC_limits_13 : decode mC_limits.2.1 13 = .ok (.aload_n 0, 1) := by decide +kernel
theorem dC_limits_14 : decode mC_limits.2.1 14 = .ok (.getfield 12, 3) := by decide +kernel
theorem dC_limits_17 : decode mC_limits.2.1 17 = .ok (.getfield 130, 3) := by decide +kernel
theorem dC_limits_20 : decode mC_limits.2.1 20 = .ok (.istore_n 1, 1) := by decide +kernel
theorem dC_limits_21 : decode mC_limits.2.1 21 = .ok (.iconst 0, 1) := by decide +kernel
theorem dC_limits_22 : decode mC_limits.2.1 22 = .ok (.istore_n 2, 1) := by decide +kernel
theorem dC_limits_23 : decode mC_limits.2.1 23 = .ok (.iconst 1, 1) := by decide +kernel
theorem dC_limits_24 : decode mC_limits.2.1 24 = .ok (.istore_n 3, 1) := by decide +kernel
theorem dC_limits_25 : decode mC_limits.2.1 25 = .ok (.iload_n 3, 1) := by decide +kernel
theorem dC_limits_26 : decode mC_limits.2.1 26 = .ok (.bipush 9, 2) := by decide +kernel
theorem dC_limits_28 : decode mC_limits.2.1 28 = .ok (.if_icmp .gt 37, 3) := by decide +kernel
theorem dC_limits_31 : decode mC_limits.2.1 31 = .ok (.aload_n 0, 1) := by decide +kernel
theorem dC_limits_32 : decode mC_limits.2.1 32 = .ok (.getfield 12, 3) := by decide +kernel
theorem dC_limits_35 : decode mC_limits.2.1 35 = .ok (.iload_n 3, 1) := by decide +kernel
theorem dC_limits_36 : decode mC_limits.2.1 36 = .ok (.putfield 130, 3) := by decide +kernel
theorem dC_limits_39 : decode mC_limits.2.1 39 = .ok (.aload_n 0, 1) := by decide +kernel
theorem dC_limits_40 : decode mC_limits.2.1 40 = .ok (.getfield 49, 3) := by decide +kernel
theorem dC_limits_43 : decode mC_limits.2.1 43 = .ok (.aload_n 0, 1) := by decide +kernel
theorem dC_limits_44 : decode mC_limits.2.1 44 = .ok (.getfield 12, 3) := by decide +kernel
theorem dC_limits_47 : decode mC_limits.2.1 47 = .ok (.invokevirtual 187, 3) := by decide +kernel
theorem dC_limits_50 : decode mC_limits.2.1 50 = .ok (.ifCond .eq 9, 3) := by decide +kernel
theorem dC_limits_53 : decode mC_limits.2.1 53 = .ok (.iload_n 2, 1) := by decide +kernel
theorem dC_limits_54 : decode mC_limits.2.1 54 = .ok (.iconst 1, 1) := by decide +kernel
theorem dC_limits_55 : decode mC_limits.2.1 55 = .ok (.iload_n 3, 1) := by decide +kernel
theorem dC_limits_56 : decode mC_limits.2.1 56 = .ok (.ishl, 1) := by decide +kernel
theorem dC_limits_57 : decode mC_limits.2.1 57 = .ok (.ior, 1) := by decide +kernel
theorem dC_limits_58 : decode mC_limits.2.1 58 = .ok (.istore_n 2, 1) := by decide +kernel
theorem dC_limits_59 : decode mC_limits.2.1 59 = .ok (.iinc 3 1, 3) := by decide +kernel
theorem dC_limits_62 : decode mC_limits.2.1 62 = .ok (.goto (-37), 3) := by decide +kernel
theorem dC_limits_65 : decode mC_limits.2.1 65 = .ok (.aload_n 0, 1) := by decide +kernel
theorem dC_limits_66 : decode mC_limits.2.1 66 = .ok (.getfield 12, 3) := by decide +kernel
theorem dC_limits_69 : decode mC_limits.2.1 69 = .ok (.iload_n 1, 1) := by decide +kernel
theorem dC_limits_70 : decode mC_limits.2.1 70 = .ok (.putfield 130, 3) := by decide +kernel
theorem dC_limits_73 : decode mC_limits.2.1 73 = .ok (.iload_n 2, 1) := by decide +kernel
theorem dC_limits_74 : decode mC_limits.2.1 74 = .ok (.ireturn, 1) := by decide +kernel
theorem dC_lose_0 : decode mC_lose.2.1 0 = .ok (.aload_n 0, 1) := by decide +kernel
theorem dC_lose_1 : decode mC_lose.2.1 1 = .ok (.getfield 21, 3) := by decide +kernel
theorem dC_lose_4 : decode mC_lose.2.1 4 = .ok (.iload_n 1, 1) := by decide +kernel
theorem dC_lose_5 : decode mC_lose.2.1 5 = .ok (.invokevirtual 57, 3) := by decide +kernel
theorem dC_lose_8 : decode mC_lose.2.1 8 = .ok (.ifCond .ne 5, 3) := by decide +kernel
theorem dC_lose_11 : decode mC_lose.2.1 11 = .ok (.iconst (-1), 1) := by decide +kernel
theorem dC_lose_12 : decode mC_lose.2.1 12 = .ok (.ireturn, 1) := by decide +kernel
theorem dC_lose_13 : decode mC_lose.2.1 13 = .ok (.aload_n 0, 1) := by decide +kernel
theorem dC_lose_14 : decode mC_lose.2.1 14 = .ok (.getfield 21, 3) := by decide +kernel
theorem dC_lose_17 : decode mC_lose.2.1 17 = .ok (.getfield 203, 3) := by decide +kernel
theorem dC_lose_20 : decode mC_lose.2.1 20 = .ok (.iload_n 1, 1) := by decide +kernel
theorem dC_lose_21 : decode mC_lose.2.1 21 = .ok (.baload, 1) := by decide +kernel
theorem dC_lose_22 : decode mC_lose.2.1 22 = .ok (.ifCond .eq 7, 3) := by decide +kernel
theorem dC_lose_25 : decode mC_lose.2.1 25 = .ok (.iconst 1, 1) := by decide +kernel
theorem dC_lose_26 : decode mC_lose.2.1 26 = .ok (.goto 4, 3) := by decide +kernel
theorem dC_lose_29 : decode mC_lose.2.1 29 = .ok (.iconst 0, 1) := by decide +kernel
theorem dC_lose_30 : decode mC_lose.2.1 30 = .ok (.istore_n 2, 1) := by decide +kernel
theorem dC_lose_31 : decode mC_lose.2.1 31 = .ok (.aload_n 0, 1) := by decide +kernel
theorem dC_lose_32 : decode mC_lose.2.1 32 = .ok (.getfield 21, 3) := by decide +kernel
theorem dC_lose_35 : decode mC_lose.2.1 35 = .ok (.getfield 203, 3) := by decide +kernel
theorem dC_lose_38 : decode mC_lose.2.1 38 = .ok (.iload_n 1, 1) := by decide +kernel
theorem dC_lose_39 : decode mC_lose.2.1 39 = .ok (.iconst 0, 1) := by decide +kernel
theorem dC_lose_40 : decode mC_lose.2.1 40 = .ok (.bastore, 1) := by decide +kernel
theorem dC_lose_41 : decode mC_lose.2.1 41 = .ok (.iload_n 2, 1) := by decide +kernel
theorem dC_lose_42 : decode mC_lose.2.1 42 = .ok (.ireturn, 1) := by decide +kernel
theorem dC_many_0 : decode mC_many.2.1 0 = .ok (.iload_n 1, 1) := by decide +kernel
theorem dC_many_1 : decode mC_many.2.1 1 = .ok (.tableswitch 75 0 4 #[35, 43, 51, 59, 67], 35) := by decide +kernel
theorem dC_many_36 : decode mC_many.2.1 36 = .ok (.aload_n 0, 1) := by decide +kernel
theorem dC_many_37 : decode mC_many.2.1 37 = .ok (.getfield 12, 3) := by decide +kernel
theorem dC_many_40 : decode mC_many.2.1 40 = .ok (.getfield 100, 3) := by decide +kernel
theorem dC_many_43 : decode mC_many.2.1 43 = .ok (.ireturn, 1) := by decide +kernel
theorem dC_many_44 : decode mC_many.2.1 44 = .ok (.aload_n 0, 1) := by decide +kernel
theorem dC_many_45 : decode mC_many.2.1 45 = .ok (.getfield 12, 3) := by decide +kernel
theorem dC_many_48 : decode mC_many.2.1 48 = .ok (.getfield 169, 3) := by decide +kernel
theorem dC_many_51 : decode mC_many.2.1 51 = .ok (.ireturn, 1) := by decide +kernel
theorem dC_many_52 : decode mC_many.2.1 52 = .ok (.aload_n 0, 1) := by decide +kernel
theorem dC_many_53 : decode mC_many.2.1 53 = .ok (.getfield 12, 3) := by decide +kernel
theorem dC_many_56 : decode mC_many.2.1 56 = .ok (.getfield 136, 3) := by decide +kernel
theorem dC_many_59 : decode mC_many.2.1 59 = .ok (.ireturn, 1) := by decide +kernel
theorem dC_many_60 : decode mC_many.2.1 60 = .ok (.aload_n 0, 1) := by decide +kernel
theorem dC_many_61 : decode mC_many.2.1 61 = .ok (.getfield 12, 3) := by decide +kernel
theorem dC_many_64 : decode mC_many.2.1 64 = .ok (.getfield 130, 3) := by decide +kernel
theorem dC_many_67 : decode mC_many.2.1 67 = .ok (.ireturn, 1) := by decide +kernel
theorem dC_many_68 : decode mC_many.2.1 68 = .ok (.aload_n 0, 1) := by decide +kernel
theorem dC_many_69 : decode mC_many.2.1 69 = .ok (.getfield 49, 3) := by decide +kernel
theorem dC_many_72 : decode mC_many.2.1 72 = .ok (.getfield 97, 3) := by decide +kernel
theorem dC_many_75 : decode mC_many.2.1 75 = .ok (.ireturn, 1) := by decide +kernel
theorem dC_many_76 : decode mC_many.2.1 76 = .ok (.bipush (-2), 2) := by decide +kernel
theorem dC_many_78 : decode mC_many.2.1 78 = .ok (.ireturn, 1) := by decide +kernel
theorem dC_may_0 : decode mC_may.2.1 0 = .ok (.aload_n 0, 1) := by decide +kernel
theorem dC_may_1 : decode mC_may.2.1 1 = .ok (.iconst 0, 1) := by decide +kernel
theorem dC_may_2 : decode mC_may.2.1 2 = .ok (.putfield 53, 3) := by decide +kernel
theorem dC_may_5 : decode mC_may.2.1 5 = .ok (.aload_n 0, 1) := by decide +kernel
theorem dC_may_6 : decode mC_may.2.1 6 = .ok (.iload_n 1, 1) := by decide +kernel
theorem dC_may_7 : decode mC_may.2.1 7 = .ok (.iload_n 2, 1) := by decide +kernel
theorem dC_may_8 : decode mC_may.2.1 8 = .ok (.iload_n 3, 1) := by decide +kernel
theorem dC_may_9 : decode mC_may.2.1 9 = .ok (.iload 4, 2) := by decide +kernel
theorem dC_may_11 : decode mC_may.2.1 11 = .ok (.iload 5, 2) := by decide +kernel
theorem dC_may_13 : decode mC_may.2.1 13 = .ok (.invokevirtual 165, 3) := by decide +kernel
theorem dC_may_16 : decode mC_may.2.1 16 = .ok (.istore 6, 2) := by decide +kernel
theorem dC_may_18 : decode mC_may.2.1 18 = .ok (.iload 6, 2) := by decide +kernel
theorem dC_may_20 : decode mC_may.2.1 20 = .ok (.ifCond .eq 6, 3) := by decide +kernel
theorem dC_may_23 : decode mC_may.2.1 23 = .ok (.iload 6, 2) := by decide +kernel
theorem dC_may_25 : decode mC_may.2.1 25 = .ok (.ireturn, 1) := by decide +kernel
theorem dC_may_26 : decode mC_may.2.1 26 = .ok (.aload_n 0, 1) := by decide +kernel
theorem dC_may_27 : decode mC_may.2.1 27 = .ok (.getfield 21, 3) := by decide +kernel
theorem dC_may_30 : decode mC_may.2.1 30 = .ok (.getfield 76, 3) := by decide +kernel
theorem dC_may_33 : decode mC_may.2.1 33 = .ok (.iload_n 1, 1) := by decide +kernel
theorem dC_may_34 : decode mC_may.2.1 34 = .ok (.aaload, 1) := by decide +kernel
theorem dC_may_35 : decode mC_may.2.1 35 = .ok (.astore 7, 2) := by decide +kernel
theorem dC_may_37 : decode mC_may.2.1 37 = .ok (.iconst 0, 1) := by decide +kernel
theorem dC_may_38 : decode mC_may.2.1 38 = .ok (.istore 8, 2) := by decide +kernel
theorem dC_may_40 : decode mC_may.2.1 40 = .ok (.iconst 0, 1) := by decide +kernel
theorem dC_may_41 : decode mC_may.2.1 41 = .ok (.istore 9, 2) := by decide +kernel
theorem dC_may_43 : decode mC_may.2.1 43 = .ok (.iload 9, 2) := by decide +kernel
theorem dC_may_45 : decode mC_may.2.1 45 = .ok (.aload_n 0, 1) := by decide +kernel
theorem dC_may_46 : decode mC_may.2.1 46 = .ok (.getfield 12, 3) := by decide +kernel
theorem dC_may_49 : decode mC_may.2.1 49 = .ok (.getfield 100, 3) := by decide +kernel
theorem dC_may_52 : decode mC_may.2.1 52 = .ok (.if_icmp .ge 71, 3) := by decide +kernel
theorem dC_may_55 : decode mC_may.2.1 55 = .ok (.aload_n 0, 1) := by decide +kernel
theorem dC_may_56 : decode mC_may.2.1 56 = .ok (.getfield 35, 3) := by decide +kernel
theorem dC_may_59 : decode mC_may.2.1 59 = .ok (.aload_n 0, 1) := by decide +kernel
theorem dC_may_60 : decode mC_may.2.1 60 = .ok (.getfield 12, 3) := by decide +kernel
theorem dC_may_63 : decode mC_may.2.1 63 = .ok (.aload 7, 2) := by decide +kernel
theorem dC_may_65 : decode mC_may.2.1 65 = .ok (.iload_n 3, 1) := by decide +kernel
theorem dC_may_66 : decode mC_may.2.1 66 = .ok (.iload 4, 2) := by decide +kernel
theorem dC_may_68 : decode mC_may.2.1 68 = .ok (.iload 9, 2) := by decide +kernel
theorem dC_may_70 : decode mC_may.2.1 70 = .ok (.invokevirtual 149, 3) := by decide +kernel
theorem dC_may_73 : decode mC_may.2.1 73 = .ok (.aload_n 0, 1) := by decide +kernel
theorem dC_may_74 : decode mC_may.2.1 74 = .ok (.getfield 35, 3) := by decide +kernel
theorem dC_may_77 : decode mC_may.2.1 77 = .ok (.getfield 153, 3) := by decide +kernel
theorem dC_may_80 : decode mC_may.2.1 80 = .ok (.bipush (-9), 2) := by decide +kernel
theorem dC_may_82 : decode mC_may.2.1 82 = .ok (.if_icmp .eq 14, 3) := by decide +kernel
theorem dC_may_85 : decode mC_may.2.1 85 = .ok (.bipush (-100), 2) := by decide +kernel
theorem dC_may_87 : decode mC_may.2.1 87 = .ok (.aload_n 0, 1) := by decide +kernel
theorem dC_may_88 : decode mC_may.2.1 88 = .ok (.getfield 35, 3) := by decide +kernel
theorem dC_may_91 : decode mC_may.2.1 91 = .ok (.getfield 153, 3) := by decide +kernel
theorem dC_may_94 : decode mC_may.2.1 94 = .ok (.isub, 1) := by decide +kernel
theorem dC_may_95 : decode mC_may.2.1 95 = .ok (.ireturn, 1) := by decide +kernel
theorem dC_may_96 : decode mC_may.2.1 96 = .ok (.aload_n 0, 1) := by decide +kernel
theorem dC_may_97 : decode mC_may.2.1 97 = .ok (.getfield 35, 3) := by decide +kernel
theorem dC_may_100 : decode mC_may.2.1 100 = .ok (.getfield 156, 3) := by decide +kernel
theorem dC_may_103 : decode mC_may.2.1 103 = .ok (.iload 5, 2) := by decide +kernel
theorem dC_may_105 : decode mC_may.2.1 105 = .ok (.if_icmp .ne 12, 3) := by decide +kernel
theorem dC_may_108 : decode mC_may.2.1 108 = .ok (.iload 8, 2) := by decide +kernel
theorem dC_may_110 : decode mC_may.2.1 110 = .ok (.iconst 1, 1) := by decide +kernel
theorem dC_may_111 : decode mC_may.2.1 111 = .ok (.iload 9, 2) := by decide +kernel
theorem dC_may_113 : decode mC_may.2.1 113 = .ok (.ishl, 1) := by decide +kernel
theorem dC_may_114 : decode mC_may.2.1 114 = .ok (.ior, 1) := by decide +kernel
theorem dC_may_115 : decode mC_may.2.1 115 = .ok (.istore 8, 2) := by decide +kernel
theorem dC_may_117 : decode mC_may.2.1 117 = .ok (.iinc 9 1, 3) := by decide +kernel
theorem dC_may_120 : decode mC_may.2.1 120 = .ok (.goto (-77), 3) := by decide +kernel
theorem dC_may_123 : decode mC_may.2.1 123 = .ok (.iload 8, 2) := by decide +kernel
theorem dC_may_125 : decode mC_may.2.1 125 = .ok (.ireturn, 1) := by decide +kernel
theorem dC_odds_0 : decode mC_odds.2.1 0 = .ok (.aload_n 0, 1) := by decide +kernel
theorem dC_odds_1 : decode mC_odds.2.1 1 = .ok (.iconst 0, 1) := by decide +kernel
theorem dC_odds_2 : decode mC_odds.2.1 2 = .ok (.putfield 53, 3) := by decide +kernel
theorem dC_odds_5 : decode mC_odds.2.1 5 = .ok (.aload_n 0, 1) := by decide +kernel
theorem dC_odds_6 : decode mC_odds.2.1 6 = .ok (.iload_n 1, 1) := by decide +kernel
theorem dC_odds_7 : decode mC_odds.2.1 7 = .ok (.iload_n 2, 1) := by decide +kernel
theorem dC_odds_8 : decode mC_odds.2.1 8 = .ok (.iload_n 3, 1) := by decide +kernel
theorem dC_odds_9 : decode mC_odds.2.1 9 = .ok (.iload 4, 2) := by decide +kernel
theorem dC_odds_11 : decode mC_odds.2.1 11 = .ok (.iload 5, 2) := by decide +kernel
theorem dC_odds_13 : decode mC_odds.2.1 13 = .ok (.invokevirtual 165, 3) := by decide +kernel
theorem dC_odds_16 : decode mC_odds.2.1 16 = .ok (.ifCond .eq 7, 3) := by decide +kernel
theorem dC_odds_19 : decode mC_odds.2.1 19 = .ok (.ldc2_w 194, 3) := by decide +kernel
theorem dC_odds_22 : decode mC_odds.2.1 22 = .ok (.lreturn, 1) := by decide +kernel
theorem dC_odds_23 : decode mC_odds.2.1 23 = .ok (.iload 6, 2) := by decide +kernel
theorem dC_odds_25 : decode mC_odds.2.1 25 = .ok (.ifCond .lt 9, 3) := by decide +kernel
theorem dC_odds_28 : decode mC_odds.2.1 28 = .ok (.iload 6, 2) := by decide +kernel
theorem dC_odds_30 : decode mC_odds.2.1 30 = .ok (.iconst 1, 1) := by decide +kernel
theorem dC_odds_31 : decode mC_odds.2.1 31 = .ok (.if_icmp .le 7, 3) := by decide +kernel
theorem dC_odds_34 : decode mC_odds.2.1 34 = .ok (.ldc2_w 194, 3) := by decide +kernel
theorem dC_odds_37 : decode mC_odds.2.1 37 = .ok (.lreturn, 1) := by decide +kernel
theorem dC_odds_38 : decode mC_odds.2.1 38 = .ok (.aload_n 0, 1) := by decide +kernel
theorem dC_odds_39 : decode mC_odds.2.1 39 = .ok (.getfield 21, 3) := by decide +kernel
theorem dC_odds_42 : decode mC_odds.2.1 42 = .ok (.getfield 76, 3) := by decide +kernel
theorem dC_odds_45 : decode mC_odds.2.1 45 = .ok (.iload_n 1, 1) := by decide +kernel
theorem dC_odds_46 : decode mC_odds.2.1 46 = .ok (.aaload, 1) := by decide +kernel
theorem dC_odds_47 : decode mC_odds.2.1 47 = .ok (.astore 7, 2) := by decide +kernel
theorem dC_odds_49 : decode mC_odds.2.1 49 = .ok (.iconst 0, 1) := by decide +kernel
theorem dC_odds_50 : decode mC_odds.2.1 50 = .ok (.istore 8, 2) := by decide +kernel
theorem dC_odds_52 : decode mC_odds.2.1 52 = .ok (.iconst 0, 1) := by decide +kernel
theorem dC_odds_53 : decode mC_odds.2.1 53 = .ok (.istore 9, 2) := by decide +kernel
theorem dC_odds_55 : decode mC_odds.2.1 55 = .ok (.iload 9, 2) := by decide +kernel
theorem dC_odds_57 : decode mC_odds.2.1 57 = .ok (.aload_n 0, 1) := by decide +kernel
theorem dC_odds_58 : decode mC_odds.2.1 58 = .ok (.getfield 12, 3) := by decide +kernel
theorem dC_odds_61 : decode mC_odds.2.1 61 = .ok (.getfield 100, 3) := by decide +kernel
theorem dC_odds_64 : decode mC_odds.2.1 64 = .ok (.if_icmp .ge 58, 3) := by decide +kernel
theorem dC_odds_67 : decode mC_odds.2.1 67 = .ok (.aload_n 0, 1) := by decide +kernel
theorem dC_odds_68 : decode mC_odds.2.1 68 = .ok (.getfield 35, 3) := by decide +kernel
theorem dC_odds_71 : decode mC_odds.2.1 71 = .ok (.aload_n 0, 1) := by decide +kernel
theorem dC_odds_72 : decode mC_odds.2.1 72 = .ok (.getfield 12, 3) := by decide +kernel
theorem dC_odds_75 : decode mC_odds.2.1 75 = .ok (.aload 7, 2) := by decide +kernel
theorem dC_odds_77 : decode mC_odds.2.1 77 = .ok (.iload_n 3, 1) := by decide +kernel
theorem dC_odds_78 : decode mC_odds.2.1 78 = .ok (.iload 4, 2) := by decide +kernel
theorem dC_odds_80 : decode mC_odds.2.1 80 = .ok (.iload 9, 2) := by decide +kernel
theorem dC_odds_82 : decode mC_odds.2.1 82 = .ok (.invokevirtual 149, 3) := by decide +kernel
theorem dC_odds_85 : decode mC_odds.2.1 85 = .ok (.aload_n 0, 1) := by decide +kernel
theorem dC_odds_86 : decode mC_odds.2.1 86 = .ok (.getfield 35, 3) := by decide +kernel
theorem dC_odds_89 : decode mC_odds.2.1 89 = .ok (.getfield 153, 3) := by decide +kernel
theorem dC_odds_92 : decode mC_odds.2.1 92 = .ok (.bipush (-9), 2) := by decide +kernel
theorem dC_odds_94 : decode mC_odds.2.1 94 = .ok (.if_icmp .eq 7, 3) := by decide +kernel
theorem dC_odds_97 : decode mC_odds.2.1 97 = .ok (.ldc2_w 194, 3) := by decide +kernel
theorem dC_odds_100 : decode mC_odds.2.1 100 = .ok (.lreturn, 1) := by decide +kernel
theorem dC_odds_101 : decode mC_odds.2.1 101 = .ok (.aload_n 0, 1) := by decide +kernel
theorem dC_odds_102 : decode mC_odds.2.1 102 = .ok (.getfield 35, 3) := by decide +kernel
theorem dC_odds_105 : decode mC_odds.2.1 105 = .ok (.getfield 156, 3) := by decide +kernel
theorem dC_odds_108 : decode mC_odds.2.1 108 = .ok (.iload 5, 2) := by decide +kernel
theorem dC_odds_110 : decode mC_odds.2.1 110 = .ok (.if_icmp .lt 6, 3) := by decide +kernel
theorem dC_odds_113 : decode mC_odds.2.1 113 = .ok (.iinc 8 1, 3) := by decide +kernel
theorem dC_odds_116 : decode mC_odds.2.1 116 = .ok (.iinc 9 1, 3) := by decide +kernel
theorem dC_odds_119 : decode mC_odds.2.1 119 = .ok (.goto (-64), 3) := by decide +kernel
theorem dC_odds_122 : decode mC_odds.2.1 122 = .ok (.iload 8, 2) := by decide +kernel
theorem dC_odds_124 : decode mC_odds.2.1 124 = .ok (.aload_n 0, 1) := by decide +kernel
theorem dC_odds_125 : decode mC_odds.2.1 125 = .ok (.getfield 12, 3) := by decide +kernel
theorem dC_odds_128 : decode mC_odds.2.1 128 = .ok (.getfield 100, 3) := by decide +kernel
theorem dC_odds_131 : decode mC_odds.2.1 131 = .ok (.invokestatic 196, 3) := by decide +kernel
theorem dC_odds_134 : decode mC_odds.2.1 134 = .ok (.istore 9, 2) := by decide +kernel
theorem dC_odds_136 : decode mC_odds.2.1 136 = .ok (.iload 9, 2) := by decide +kernel
theorem dC_odds_138 : decode mC_odds.2.1 138 = .ok (.ifCond .ne 7, 3) := by decide +kernel
theorem dC_odds_141 : decode mC_odds.2.1 141 = .ok (.ldc2_w 194, 3) := by decide +kernel
theorem dC_odds_144 : decode mC_odds.2.1 144 = .ok (.lreturn, 1) := by decide +kernel
theorem dC_odds_145 : decode mC_odds.2.1 145 = .ok (.iload 6, 2) := by decide +kernel
theorem dC_odds_147 : decode mC_odds.2.1 147 = .ok (.ifCond .ne 12, 3) := by decide +kernel
theorem dC_odds_150 : decode mC_odds.2.1 150 = .ok (.iload 8, 2) := by decide +kernel
theorem dC_odds_152 : decode mC_odds.2.1 152 = .ok (.iload 9, 2) := by decide +kernel
theorem dC_odds_154 : decode mC_odds.2.1 154 = .ok (.idiv, 1) := by decide +kernel
theorem dC_odds_155 : decode mC_odds.2.1 155 = .ok (.i2l, 1) := by decide +kernel
theorem dC_odds_156 : decode mC_odds.2.1 156 = .ok (.goto 14, 3) := by decide +kernel
theorem dC_odds_159 : decode mC_odds.2.1 159 = .ok (.aload_n 0, 1) := by decide +kernel
theorem dC_odds_160 : decode mC_odds.2.1 160 = .ok (.getfield 12, 3) := by decide +kernel
theorem dC_odds_163 : decode mC_odds.2.1 163 = .ok (.getfield 100, 3) := by decide +kernel
theorem dC_odds_166 : decode mC_odds.2.1 166 = .ok (.iload 9, 2) := by decide +kernel
theorem dC_odds_168 : decode mC_odds.2.1 168 = .ok (.idiv, 1) := by decide +kernel
theorem dC_odds_169 : decode mC_odds.2.1 169 = .ok (.i2l, 1) := by decide +kernel
theorem dC_odds_170 : decode mC_odds.2.1 170 = .ok (.lreturn, 1) := by decide +kernel
theorem dC_ofDoing_0 : decode mC_ofDoing.2.1 0 = .ok (.aload_n 0, 1) := by decide +kernel
theorem dC_ofDoing_1 : decode mC_ofDoing.2.1 1 = .ok (.getfield 12, 3) := by decide +kernel
theorem dC_ofDoing_4 : decode mC_ofDoing.2.1 4 = .ok (.iload_n 1, 1) := by decide +kernel
theorem dC_ofDoing_5 : decode mC_ofDoing.2.1 5 = .ok (.invokevirtual 114, 3) := by decide +kernel
theorem dC_ofDoing_8 : decode mC_ofDoing.2.1 8 = .ok (.ifCond .ne 5, 3) := by decide +kernel
theorem dC_ofDoing_11 : decode mC_ofDoing.2.1 11 = .ok (.iconst (-1), 1) := by decide +kernel
theorem dC_ofDoing_12 : decode mC_ofDoing.2.1 12 = .ok (.ireturn, 1) := by decide +kernel
theorem dC_ofDoing_13 : decode mC_ofDoing.2.1 13 = .ok (.iload_n 2, 1) := by decide +kernel
theorem dC_ofDoing_14 : decode mC_ofDoing.2.1 14 = .ok (.tableswitch 55 0 2 #[26, 36, 46], 26) := by decide +kernel
theorem dC_ofDoing_40 : decode mC_ofDoing.2.1 40 = .ok (.aload_n 0, 1) := by decide +kernel
theorem dC_ofDoing_41 : decode mC_ofDoing.2.1 41 = .ok (.getfield 12, 3) := by decide +kernel
theorem dC_ofDoing_44 : decode mC_ofDoing.2.1 44 = .ok (.getfield 117, 3) := by decide +kernel
theorem dC_ofDoing_47 : decode mC_ofDoing.2.1 47 = .ok (.iload_n 1, 1) := by decide +kernel
theorem dC_ofDoing_48 : decode mC_ofDoing.2.1 48 = .ok (.iaload, 1) := by decide +kernel
theorem dC_ofDoing_49 : decode mC_ofDoing.2.1 49 = .ok (.ireturn, 1) := by decide +kernel
theorem dC_ofDoing_50 : decode mC_ofDoing.2.1 50 = .ok (.aload_n 0, 1) := by decide +kernel
theorem dC_ofDoing_51 : decode mC_ofDoing.2.1 51 = .ok (.getfield 12, 3) := by decide +kernel
theorem dC_ofDoing_54 : decode mC_ofDoing.2.1 54 = .ok (.getfield 120, 3) := by decide +kernel
theorem dC_ofDoing_57 : decode mC_ofDoing.2.1 57 = .ok (.iload_n 1, 1) := by decide +kernel
theorem dC_ofDoing_58 : decode mC_ofDoing.2.1 58 = .ok (.iaload, 1) := by decide +kernel
theorem dC_ofDoing_59 : decode mC_ofDoing.2.1 59 = .ok (.ireturn, 1) := by decide +kernel
theorem dC_ofDoing_60 : decode mC_ofDoing.2.1 60 = .ok (.aload_n 0, 1) := by decide +kernel
theorem dC_ofDoing_61 : decode mC_ofDoing.2.1 61 = .ok (.getfield 12, 3) := by decide +kernel
theorem dC_ofDoing_64 : decode mC_ofDoing.2.1 64 = .ok (.iload_n 1, 1) := by decide +kernel
theorem dC_ofDoing_65 : decode mC_ofDoing.2.1 65 = .ok (.invokevirtual 123, 3) := by decide +kernel
theorem dC_ofDoing_68 : decode mC_ofDoing.2.1 68 = .ok (.ireturn, 1) := by decide +kernel
theorem dC_ofDoing_69 : decode mC_ofDoing.2.1 69 = .ok (.bipush (-2), 2) := by decide +kernel
theorem dC_ofDoing_71 : decode mC_ofDoing.2.1 71 = .ok (.ireturn, 1) := by decide +kernel
theorem dC_ofGuest_0 : decode mC_ofGuest.2.1 0 = .ok (.aload_n 0, 1) := by decide +kernel
theorem dC_ofGuest_1 : decode mC_ofGuest.2.1 1 = .ok (.getfield 12, 3) := by decide +kernel
theorem dC_ofGuest_4 : decode mC_ofGuest.2.1 4 = .ok (.iload_n 1, 1) := by decide +kernel
theorem dC_ofGuest_5 : decode mC_ofGuest.2.1 5 = .ok (.invokevirtual 101, 3) := by decide +kernel
theorem dC_ofGuest_8 : decode mC_ofGuest.2.1 8 = .ok (.ifCond .ne 5, 3) := by decide +kernel
theorem dC_ofGuest_11 : decode mC_ofGuest.2.1 11 = .ok (.iconst (-1), 1) := by decide +kernel
theorem dC_ofGuest_12 : decode mC_ofGuest.2.1 12 = .ok (.ireturn, 1) := by decide +kernel
theorem dC_ofGuest_13 : decode mC_ofGuest.2.1 13 = .ok (.iload_n 2, 1) := by decide +kernel
theorem dC_ofGuest_14 : decode mC_ofGuest.2.1 14 = .ok (.tableswitch 56 0 2 #[26, 36, 46], 26) := by decide +kernel
theorem dC_ofGuest_40 : decode mC_ofGuest.2.1 40 = .ok (.aload_n 0, 1) := by decide +kernel
theorem dC_ofGuest_41 : decode mC_ofGuest.2.1 41 = .ok (.getfield 12, 3) := by decide +kernel
theorem dC_ofGuest_44 : decode mC_ofGuest.2.1 44 = .ok (.getfield 104, 3) := by decide +kernel
theorem dC_ofGuest_47 : decode mC_ofGuest.2.1 47 = .ok (.iload_n 1, 1) := by decide +kernel
theorem dC_ofGuest_48 : decode mC_ofGuest.2.1 48 = .ok (.iaload, 1) := by decide +kernel
theorem dC_ofGuest_49 : decode mC_ofGuest.2.1 49 = .ok (.ireturn, 1) := by decide +kernel
theorem dC_ofGuest_50 : decode mC_ofGuest.2.1 50 = .ok (.aload_n 0, 1) := by decide +kernel
theorem dC_ofGuest_51 : decode mC_ofGuest.2.1 51 = .ok (.getfield 12, 3) := by decide +kernel
theorem dC_ofGuest_54 : decode mC_ofGuest.2.1 54 = .ok (.getfield 108, 3) := by decide +kernel
theorem dC_ofGuest_57 : decode mC_ofGuest.2.1 57 = .ok (.iload_n 1, 1) := by decide +kernel
theorem dC_ofGuest_58 : decode mC_ofGuest.2.1 58 = .ok (.iaload, 1) := by decide +kernel
theorem dC_ofGuest_59 : decode mC_ofGuest.2.1 59 = .ok (.ireturn, 1) := by decide +kernel
theorem dC_ofGuest_60 : decode mC_ofGuest.2.1 60 = .ok (.aload_n 0, 1) := by decide +kernel
theorem dC_ofGuest_61 : decode mC_ofGuest.2.1 61 = .ok (.getfield 12, 3) := by decide +kernel
theorem dC_ofGuest_64 : decode mC_ofGuest.2.1 64 = .ok (.getfield 111, 3) := by decide +kernel
theorem dC_ofGuest_67 : decode mC_ofGuest.2.1 67 = .ok (.iload_n 1, 1) := by decide +kernel
theorem dC_ofGuest_68 : decode mC_ofGuest.2.1 68 = .ok (.iaload, 1) := by decide +kernel
theorem dC_ofGuest_69 : decode mC_ofGuest.2.1 69 = .ok (.ireturn, 1) := by decide +kernel
theorem dC_ofGuest_70 : decode mC_ofGuest.2.1 70 = .ok (.bipush (-2), 2) := by decide +kernel
theorem dC_ofGuest_72 : decode mC_ofGuest.2.1 72 = .ok (.ireturn, 1) := by decide +kernel
theorem dC_pleased_0 : decode mC_pleased.2.1 0 = .ok (.aload_n 0, 1) := by decide +kernel
theorem dC_pleased_1 : decode mC_pleased.2.1 1 = .ok (.getfield 12, 3) := by decide +kernel
theorem dC_pleased_4 : decode mC_pleased.2.1 4 = .ok (.iload_n 1, 1) := by decide +kernel
theorem dC_pleased_5 : decode mC_pleased.2.1 5 = .ok (.invokevirtual 101, 3) := by decide +kernel
theorem dC_pleased_8 : decode mC_pleased.2.1 8 = .ok (.ifCond .eq 14, 3) := by decide +kernel
theorem dC_pleased_11 : decode mC_pleased.2.1 11 = .ok (.aload_n 0, 1) := by decide +kernel
theorem dC_pleased_12 : decode mC_pleased.2.1 12 = .ok (.getfield 12, 3) := by decide +kernel
theorem dC_pleased_15 : decode mC_pleased.2.1 15 = .ok (.iload_n 2, 1) := by decide +kernel
theorem dC_pleased_16 : decode mC_pleased.2.1 16 = .ok (.invokevirtual 114, 3) := by decide +kernel
theorem dC_pleased_19 : decode mC_pleased.2.1 19 = .ok (.ifCond .ne 5, 3) := by decide +kernel
theorem dC_pleased_22 : decode mC_pleased.2.1 22 = .ok (.iconst (-1), 1) := by decide +kernel
theorem dC_pleased_23 : decode mC_pleased.2.1 23 = .ok (.ireturn, 1) := by decide +kernel
theorem dC_pleased_24 : decode mC_pleased.2.1 24 = .ok (.aload_n 0, 1) := by decide +kernel
theorem dC_pleased_25 : decode mC_pleased.2.1 25 = .ok (.getfield 12, 3) := by decide +kernel
theorem dC_pleased_28 : decode mC_pleased.2.1 28 = .ok (.iload_n 1, 1) := by decide +kernel
theorem dC_pleased_29 : decode mC_pleased.2.1 29 = .ok (.iload_n 2, 1) := by decide +kernel
theorem dC_pleased_30 : decode mC_pleased.2.1 30 = .ok (.invokevirtual 139, 3) := by decide +kernel
theorem dC_pleased_33 : decode mC_pleased.2.1 33 = .ok (.ireturn, 1) := by decide +kernel
theorem dC_put_0 : decode mC_put.2.1 0 = .ok (.aload_n 0, 1) := by decide +kernel
theorem dC_put_1 : decode mC_put.2.1 1 = .ok (.iconst 0, 1) := by decide +kernel
theorem dC_put_2 : decode mC_put.2.1 2 = .ok (.putfield 53, 3) := by decide +kernel
theorem dC_put_5 : decode mC_put.2.1 5 = .ok (.aload_n 0, 1) := by decide +kernel
theorem dC_put_6 : decode mC_put.2.1 6 = .ok (.getfield 21, 3) := by decide +kernel
theorem dC_put_9 : decode mC_put.2.1 9 = .ok (.iload_n 1, 1) := by decide +kernel
theorem dC_put_10 : decode mC_put.2.1 10 = .ok (.invokevirtual 57, 3) := by decide +kernel
theorem dC_put_13 : decode mC_put.2.1 13 = .ok (.ifCond .ne 5, 3) := by decide +kernel
theorem dC_put_16 : decode mC_put.2.1 16 = .ok (.iconst (-1), 1) := by decide +kernel
theorem dC_put_17 : decode mC_put.2.1 17 = .ok (.ireturn, 1) := by decide +kernel
theorem dC_put_18 : decode mC_put.2.1 18 = .ok (.aload_n 0, 1) := by decide +kernel
theorem dC_put_19 : decode mC_put.2.1 19 = .ok (.getfield 21, 3) := by decide +kernel
theorem dC_put_22 : decode mC_put.2.1 22 = .ok (.getfield 203, 3) := by decide +kernel
theorem dC_put_25 : decode mC_put.2.1 25 = .ok (.iload_n 1, 1) := by decide +kernel
theorem dC_put_26 : decode mC_put.2.1 26 = .ok (.baload, 1) := by decide +kernel
theorem dC_put_27 : decode mC_put.2.1 27 = .ok (.ifCond .ne 9, 3) := by decide +kernel
theorem dC_put_30 : decode mC_put.2.1 30 = .ok (.aload_n 0, 1) := by decide +kernel
theorem dC_put_31 : decode mC_put.2.1 31 = .ok (.iconst 1, 1) := by decide +kernel
theorem dC_put_32 : decode mC_put.2.1 32 = .ok (.invokevirtual 68, 3) := by decide +kernel
theorem dC_put_35 : decode mC_put.2.1 35 = .ok (.ireturn, 1) := by decide +kernel
theorem dC_put_36 : decode mC_put.2.1 36 = .ok (.aload_n 0, 1) := by decide +kernel
theorem dC_put_37 : decode mC_put.2.1 37 = .ok (.getfield 21, 3) := by decide +kernel
theorem dC_put_40 : decode mC_put.2.1 40 = .ok (.iload_n 1, 1) := by decide +kernel
theorem dC_put_41 : decode mC_put.2.1 41 = .ok (.iload_n 2, 1) := by decide +kernel
theorem dC_put_42 : decode mC_put.2.1 42 = .ok (.invokevirtual 207, 3) := by decide +kernel
theorem dC_put_45 : decode mC_put.2.1 45 = .ok (.ifCond .ne 9, 3) := by decide +kernel
theorem dC_put_48 : decode mC_put.2.1 48 = .ok (.aload_n 0, 1) := by decide +kernel
theorem dC_put_49 : decode mC_put.2.1 49 = .ok (.iconst 3, 1) := by decide +kernel
theorem dC_put_50 : decode mC_put.2.1 50 = .ok (.invokevirtual 68, 3) := by decide +kernel
theorem dC_put_53 : decode mC_put.2.1 53 = .ok (.ireturn, 1) := by decide +kernel
theorem dC_put_54 : decode mC_put.2.1 54 = .ok (.aload_n 0, 1) := by decide +kernel
theorem dC_put_55 : decode mC_put.2.1 55 = .ok (.getfield 21, 3) := by decide +kernel
theorem dC_put_58 : decode mC_put.2.1 58 = .ok (.getfield 76, 3) := by decide +kernel
theorem dC_put_61 : decode mC_put.2.1 61 = .ok (.iload_n 1, 1) := by decide +kernel
theorem dC_put_62 : decode mC_put.2.1 62 = .ok (.aaload, 1) := by decide +kernel
theorem dC_put_63 : decode mC_put.2.1 63 = .ok (.iload_n 2, 1) := by decide +kernel
theorem dC_put_64 : decode mC_put.2.1 64 = .ok (.iload_n 3, 1) := by decide +kernel
theorem dC_put_65 : decode mC_put.2.1 65 = .ok (.aload_n 0, 1) := by decide +kernel
theorem dC_put_66 : decode mC_put.2.1 66 = .ok (.getfield 21, 3) := by decide +kernel
theorem dC_put_69 : decode mC_put.2.1 69 = .ok (.getfield 211, 3) := by decide +kernel
theorem dC_put_72 : decode mC_put.2.1 72 = .ok (.iload_n 1, 1) := by decide +kernel
theorem dC_put_73 : decode mC_put.2.1 73 = .ok (.iaload, 1) := by decide +kernel
theorem dC_put_74 : decode mC_put.2.1 74 = .ok (.invokestatic 214, 3) := by decide +kernel
theorem dC_put_77 : decode mC_put.2.1 77 = .ok (.iastore, 1) := by decide +kernel
theorem dC_put_78 : decode mC_put.2.1 78 = .ok (.iconst 1, 1) := by decide +kernel
theorem dC_put_79 : decode mC_put.2.1 79 = .ok (.ireturn, 1) := by decide +kernel
theorem dC_reading_0 : decode mC_reading.2.1 0 = .ok (.aload_n 0, 1) := by decide +kernel
theorem dC_reading_1 : decode mC_reading.2.1 1 = .ok (.getfield 12, 3) := by decide +kernel
theorem dC_reading_4 : decode mC_reading.2.1 4 = .ok (.iload_n 1, 1) := by decide +kernel
theorem dC_reading_5 : decode mC_reading.2.1 5 = .ok (.invokevirtual 101, 3) := by decide +kernel
theorem dC_reading_8 : decode mC_reading.2.1 8 = .ok (.ifCond .eq 14, 3) := by decide +kernel
theorem dC_reading_11 : decode mC_reading.2.1 11 = .ok (.aload_n 0, 1) := by decide +kernel
theorem dC_reading_12 : decode mC_reading.2.1 12 = .ok (.getfield 12, 3) := by decide +kernel
theorem dC_reading_15 : decode mC_reading.2.1 15 = .ok (.iload_n 2, 1) := by decide +kernel
theorem dC_reading_16 : decode mC_reading.2.1 16 = .ok (.invokevirtual 114, 3) := by decide +kernel
theorem dC_reading_19 : decode mC_reading.2.1 19 = .ok (.ifCond .ne 5, 3) := by decide +kernel
theorem dC_reading_22 : decode mC_reading.2.1 22 = .ok (.iconst (-1), 1) := by decide +kernel
theorem dC_reading_23 : decode mC_reading.2.1 23 = .ok (.ireturn, 1) := by decide +kernel
theorem dC_reading_24 : decode mC_reading.2.1 24 = .ok (.aload_n 0, 1) := by decide +kernel
theorem dC_reading_25 : decode mC_reading.2.1 25 = .ok (.getfield 49, 3) := by decide +kernel
theorem dC_reading_28 : decode mC_reading.2.1 28 = .ok (.getfield 97, 3) := by decide +kernel
theorem dC_reading_31 : decode mC_reading.2.1 31 = .ok (.bipush 8, 2) := by decide +kernel
theorem dC_reading_33 : decode mC_reading.2.1 33 = .ok (.if_icmp .lt 6, 3) := by decide +kernel
theorem dC_reading_36 : decode mC_reading.2.1 36 = .ok (.bipush (-4), 2) := by decide +kernel
theorem dC_reading_38 : decode mC_reading.2.1 38 = .ok (.ireturn, 1) := by decide +kernel
theorem dC_reading_39 : decode mC_reading.2.1 39 = .ok (.aload_n 0, 1) := by decide +kernel
theorem dC_reading_40 : decode mC_reading.2.1 40 = .ok (.getfield 49, 3) := by decide +kernel
theorem dC_reading_43 : decode mC_reading.2.1 43 = .ok (.iload_n 1, 1) := by decide +kernel
theorem dC_reading_44 : decode mC_reading.2.1 44 = .ok (.iload_n 2, 1) := by decide +kernel
theorem dC_reading_45 : decode mC_reading.2.1 45 = .ok (.iload_n 3, 1) := by decide +kernel
theorem dC_reading_46 : decode mC_reading.2.1 46 = .ok (.invokevirtual 183, 3) := by decide +kernel
theorem dC_reading_49 : decode mC_reading.2.1 49 = .ok (.ireturn, 1) := by decide +kernel
theorem dC_refusedPairs_0 : decode mC_refusedPairs.2.1 0 = .ok (.aload_n 0, 1) := by decide +kernel
theorem dC_refusedPairs_1 : decode mC_refusedPairs.2.1 1 = .ok (.getfield 21, 3) := by decide +kernel
theorem dC_refusedPairs_4 : decode mC_refusedPairs.2.1 4 = .ok (.iload_n 1, 1) := by decide +kernel
theorem dC_refusedPairs_5 : decode mC_refusedPairs.2.1 5 = .ok (.iload_n 2, 1) := by decide +kernel
theorem dC_refusedPairs_6 : decode mC_refusedPairs.2.1 6 = .ok (.invokevirtual 64, 3) := by decide +kernel
theorem dC_refusedPairs_9 : decode mC_refusedPairs.2.1 9 = .ok (.istore 5, 2) := by decide +kernel
theorem dC_refusedPairs_11 : decode mC_refusedPairs.2.1 11 = .ok (.iload 5, 2) := by decide +kernel
theorem dC_refusedPairs_13 : decode mC_refusedPairs.2.1 13 = .ok (.ifCond .eq 10, 3) := by decide +kernel
theorem dC_refusedPairs_16 : decode mC_refusedPairs.2.1 16 = .ok (.aload_n 0, 1) := by decide +kernel
theorem dC_refusedPairs_17 : decode mC_refusedPairs.2.1 17 = .ok (.iload 5, 2) := by decide +kernel
theorem dC_refusedPairs_19 : decode mC_refusedPairs.2.1 19 = .ok (.invokevirtual 68, 3) := by decide +kernel
theorem dC_refusedPairs_22 : decode mC_refusedPairs.2.1 22 = .ok (.ireturn, 1) := by decide +kernel
theorem dC_refusedPairs_23 : decode mC_refusedPairs.2.1 23 = .ok (.aload_n 0, 1) := by decide +kernel
theorem dC_refusedPairs_24 : decode mC_refusedPairs.2.1 24 = .ok (.getfield 21, 3) := by decide +kernel
theorem dC_refusedPairs_27 : decode mC_refusedPairs.2.1 27 = .ok (.iload_n 1, 1) := by decide +kernel
theorem dC_refusedPairs_28 : decode mC_refusedPairs.2.1 28 = .ok (.iload_n 3, 1) := by decide +kernel
theorem dC_refusedPairs_29 : decode mC_refusedPairs.2.1 29 = .ok (.iconst 2, 1) := by decide +kernel
theorem dC_refusedPairs_30 : decode mC_refusedPairs.2.1 30 = .ok (.iload 4, 2) := by decide +kernel
theorem dC_refusedPairs_32 : decode mC_refusedPairs.2.1 32 = .ok (.imul, 1) := by decide +kernel
theorem dC_refusedPairs_33 : decode mC_refusedPairs.2.1 33 = .ok (.invokevirtual 72, 3) := by decide +kernel
theorem dC_refusedPairs_36 : decode mC_refusedPairs.2.1 36 = .ok (.ifCond .ne 9, 3) := by decide +kernel
theorem dC_refusedPairs_39 : decode mC_refusedPairs.2.1 39 = .ok (.aload_n 0, 1) := by decide +kernel
theorem dC_refusedPairs_40 : decode mC_refusedPairs.2.1 40 = .ok (.iconst 3, 1) := by decide +kernel
theorem dC_refusedPairs_41 : decode mC_refusedPairs.2.1 41 = .ok (.invokevirtual 68, 3) := by decide +kernel
theorem dC_refusedPairs_44 : decode mC_refusedPairs.2.1 44 = .ok (.ireturn, 1) := by decide +kernel
theorem dC_refusedPairs_45 : decode mC_refusedPairs.2.1 45 = .ok (.aload_n 0, 1) := by decide +kernel
theorem dC_refusedPairs_46 : decode mC_refusedPairs.2.1 46 = .ok (.getfield 21, 3) := by decide +kernel
theorem dC_refusedPairs_49 : decode mC_refusedPairs.2.1 49 = .ok (.getfield 76, 3) := by decide +kernel
theorem dC_refusedPairs_52 : decode mC_refusedPairs.2.1 52 = .ok (.iload_n 1, 1) := by decide +kernel
theorem dC_refusedPairs_53 : decode mC_refusedPairs.2.1 53 = .ok (.aaload, 1) := by decide +kernel
theorem dC_refusedPairs_54 : decode mC_refusedPairs.2.1 54 = .ok (.astore 6, 2) := by decide +kernel
theorem dC_refusedPairs_56 : decode mC_refusedPairs.2.1 56 = .ok (.iconst 0, 1) := by decide +kernel
theorem dC_refusedPairs_57 : decode mC_refusedPairs.2.1 57 = .ok (.istore 7, 2) := by decide +kernel
theorem dC_refusedPairs_59 : decode mC_refusedPairs.2.1 59 = .ok (.iload 7, 2) := by decide +kernel
theorem dC_refusedPairs_61 : decode mC_refusedPairs.2.1 61 = .ok (.iload 4, 2) := by decide +kernel
theorem dC_refusedPairs_63 : decode mC_refusedPairs.2.1 63 = .ok (.if_icmp .ge 51, 3) := by decide +kernel
theorem dC_refusedPairs_66 : decode mC_refusedPairs.2.1 66 = .ok (.aload_n 0, 1) := by decide +kernel
theorem dC_refusedPairs_67 : decode mC_refusedPairs.2.1 67 = .ok (.getfield 12, 3) := by decide +kernel
theorem dC_refusedPairs_70 : decode mC_refusedPairs.2.1 70 = .ok (.aload 6, 2) := by decide +kernel
theorem dC_refusedPairs_72 : decode mC_refusedPairs.2.1 72 = .ok (.iload_n 3, 1) := by decide +kernel
theorem dC_refusedPairs_73 : decode mC_refusedPairs.2.1 73 = .ok (.iconst 2, 1) := by decide +kernel
theorem dC_refusedPairs_74 : decode mC_refusedPairs.2.1 74 = .ok (.iload 7, 2) := by decide +kernel
theorem dC_refusedPairs_76 : decode mC_refusedPairs.2.1 76 = .ok (.imul, 1) := by decide +kernel
theorem dC_refusedPairs_77 : decode mC_refusedPairs.2.1 77 = .ok (.iadd, 1) := by decide +kernel
theorem dC_refusedPairs_78 : decode mC_refusedPairs.2.1 78 = .ok (.iaload, 1) := by decide +kernel
theorem dC_refusedPairs_79 : decode mC_refusedPairs.2.1 79 = .ok (.invokevirtual 101, 3) := by decide +kernel
theorem dC_refusedPairs_82 : decode mC_refusedPairs.2.1 82 = .ok (.ifCond .eq 24, 3) := by decide +kernel
theorem dC_refusedPairs_85 : decode mC_refusedPairs.2.1 85 = .ok (.aload_n 0, 1) := by decide +kernel
theorem dC_refusedPairs_86 : decode mC_refusedPairs.2.1 86 = .ok (.getfield 12, 3) := by decide +kernel
theorem dC_refusedPairs_89 : decode mC_refusedPairs.2.1 89 = .ok (.aload 6, 2) := by decide +kernel
theorem dC_refusedPairs_91 : decode mC_refusedPairs.2.1 91 = .ok (.iload_n 3, 1) := by decide +kernel
theorem dC_refusedPairs_92 : decode mC_refusedPairs.2.1 92 = .ok (.iconst 2, 1) := by decide +kernel
theorem dC_refusedPairs_93 : decode mC_refusedPairs.2.1 93 = .ok (.iload 7, 2) := by decide +kernel
theorem dC_refusedPairs_95 : decode mC_refusedPairs.2.1 95 = .ok (.imul, 1) := by decide +kernel
theorem dC_refusedPairs_96 : decode mC_refusedPairs.2.1 96 = .ok (.iadd, 1) := by decide +kernel
theorem dC_refusedPairs_97 : decode mC_refusedPairs.2.1 97 = .ok (.iconst 1, 1) := by decide +kernel
theorem dC_refusedPairs_98 : decode mC_refusedPairs.2.1 98 = .ok (.iadd, 1) := by decide +kernel
theorem dC_refusedPairs_99 : decode mC_refusedPairs.2.1 99 = .ok (.iaload, 1) := by decide +kernel
theorem dC_refusedPairs_100 : decode mC_refusedPairs.2.1 100 = .ok (.invokevirtual 114, 3) := by decide +kernel
theorem dC_refusedPairs_103 : decode mC_refusedPairs.2.1 103 = .ok (.ifCond .ne 5, 3) := by decide +kernel
theorem dC_refusedPairs_106 : decode mC_refusedPairs.2.1 106 = .ok (.iconst (-1), 1) := by decide +kernel
theorem dC_refusedPairs_107 : decode mC_refusedPairs.2.1 107 = .ok (.ireturn, 1) := by decide +kernel
theorem dC_refusedPairs_108 : decode mC_refusedPairs.2.1 108 = .ok (.iinc 7 1, 3) := by decide +kernel
theorem dC_refusedPairs_111 : decode mC_refusedPairs.2.1 111 = .ok (.goto (-52), 3) := by decide +kernel
theorem dC_refusedPairs_114 : decode mC_refusedPairs.2.1 114 = .ok (.iconst 0, 1) := by decide +kernel
theorem dC_refusedPairs_115 : decode mC_refusedPairs.2.1 115 = .ok (.ireturn, 1) := by decide +kernel
theorem dC_refusedSeason_0 : decode mC_refusedSeason.2.1 0 = .ok (.aload_n 0, 1) := by decide +kernel
theorem dC_refusedSeason_1 : decode mC_refusedSeason.2.1 1 = .ok (.getfield 21, 3) := by decide +kernel
theorem dC_refusedSeason_4 : decode mC_refusedSeason.2.1 4 = .ok (.iload_n 1, 1) := by decide +kernel
theorem dC_refusedSeason_5 : decode mC_refusedSeason.2.1 5 = .ok (.invokevirtual 57, 3) := by decide +kernel
theorem dC_refusedSeason_8 : decode mC_refusedSeason.2.1 8 = .ok (.ifCond .ne 5, 3) := by decide +kernel
theorem dC_refusedSeason_11 : decode mC_refusedSeason.2.1 11 = .ok (.iconst (-1), 1) := by decide +kernel
theorem dC_refusedSeason_12 : decode mC_refusedSeason.2.1 12 = .ok (.ireturn, 1) := by decide +kernel
theorem dC_refusedSeason_13 : decode mC_refusedSeason.2.1 13 = .ok (.iload_n 2, 1) := by decide +kernel
theorem dC_refusedSeason_14 : decode mC_refusedSeason.2.1 14 = .ok (.invokestatic 61, 3) := by decide +kernel
theorem dC_refusedSeason_17 : decode mC_refusedSeason.2.1 17 = .ok (.ifCond .eq 19, 3) := by decide +kernel
theorem dC_refusedSeason_20 : decode mC_refusedSeason.2.1 20 = .ok (.iload 4, 2) := by decide +kernel
theorem dC_refusedSeason_22 : decode mC_refusedSeason.2.1 22 = .ok (.invokestatic 142, 3) := by decide +kernel
theorem dC_refusedSeason_25 : decode mC_refusedSeason.2.1 25 = .ok (.ifCond .eq 11, 3) := by decide +kernel
theorem dC_refusedSeason_28 : decode mC_refusedSeason.2.1 28 = .ok (.iload 5, 2) := by decide +kernel
theorem dC_refusedSeason_30 : decode mC_refusedSeason.2.1 30 = .ok (.invokestatic 133, 3) := by decide +kernel
theorem dC_refusedSeason_33 : decode mC_refusedSeason.2.1 33 = .ok (.ifCond .ne 6, 3) := by decide +kernel
theorem dC_refusedSeason_36 : decode mC_refusedSeason.2.1 36 = .ok (.bipush (-2), 2) := by decide +kernel
theorem dC_refusedSeason_38 : decode mC_refusedSeason.2.1 38 = .ok (.ireturn, 1) := by decide +kernel
theorem dC_refusedSeason_39 : decode mC_refusedSeason.2.1 39 = .ok (.aload_n 0, 1) := by decide +kernel
theorem dC_refusedSeason_40 : decode mC_refusedSeason.2.1 40 = .ok (.getfield 12, 3) := by decide +kernel
theorem dC_refusedSeason_43 : decode mC_refusedSeason.2.1 43 = .ok (.invokevirtual 126, 3) := by decide +kernel
theorem dC_refusedSeason_46 : decode mC_refusedSeason.2.1 46 = .ok (.ifCond .ne 6, 3) := by decide +kernel
theorem dC_refusedSeason_49 : decode mC_refusedSeason.2.1 49 = .ok (.bipush (-3), 2) := by decide +kernel
theorem dC_refusedSeason_51 : decode mC_refusedSeason.2.1 51 = .ok (.ireturn, 1) := by decide +kernel
theorem dC_refusedSeason_52 : decode mC_refusedSeason.2.1 52 = .ok (.aload_n 0, 1) := by decide +kernel
theorem dC_refusedSeason_53 : decode mC_refusedSeason.2.1 53 = .ok (.iload_n 1, 1) := by decide +kernel
theorem dC_refusedSeason_54 : decode mC_refusedSeason.2.1 54 = .ok (.iload_n 2, 1) := by decide +kernel
theorem dC_refusedSeason_55 : decode mC_refusedSeason.2.1 55 = .ok (.iload_n 3, 1) := by decide +kernel
theorem dC_refusedSeason_56 : decode mC_refusedSeason.2.1 56 = .ok (.iload 4, 2) := by decide +kernel
theorem dC_refusedSeason_58 : decode mC_refusedSeason.2.1 58 = .ok (.invokevirtual 145, 3) := by decide +kernel
theorem dC_refusedSeason_61 : decode mC_refusedSeason.2.1 61 = .ok (.ireturn, 1) := by decide +kernel
theorem dC_season_0 : decode mC_season.2.1 0 = .ok (.aload_n 0, 1) := by decide +kernel
theorem dC_season_1 : decode mC_season.2.1 1 = .ok (.iconst 0, 1) := by decide +kernel
theorem dC_season_2 : decode mC_season.2.1 2 = .ok (.putfield 53, 3) := by decide +kernel
theorem dC_season_5 : decode mC_season.2.1 5 = .ok (.aload_n 0, 1) := by decide +kernel
theorem dC_season_6 : decode mC_season.2.1 6 = .ok (.getfield 12, 3) := by decide +kernel
theorem dC_season_9 : decode mC_season.2.1 9 = .ok (.iload_n 1, 1) := by decide +kernel
theorem dC_season_10 : decode mC_season.2.1 10 = .ok (.invokevirtual 101, 3) := by decide +kernel
theorem dC_season_13 : decode mC_season.2.1 13 = .ok (.ifCond .eq 14, 3) := by decide +kernel
theorem dC_season_16 : decode mC_season.2.1 16 = .ok (.aload_n 0, 1) := by decide +kernel
theorem dC_season_17 : decode mC_season.2.1 17 = .ok (.getfield 21, 3) := by decide +kernel
theorem dC_season_20 : decode mC_season.2.1 20 = .ok (.iload_n 2, 1) := by decide +kernel
theorem dC_season_21 : decode mC_season.2.1 21 = .ok (.invokevirtual 57, 3) := by decide +kernel
theorem dC_season_24 : decode mC_season.2.1 24 = .ok (.ifCond .ne 5, 3) := by decide +kernel
theorem dC_season_27 : decode mC_season.2.1 27 = .ok (.iconst (-1), 1) := by decide +kernel
theorem dC_season_28 : decode mC_season.2.1 28 = .ok (.ireturn, 1) := by decide +kernel
theorem dC_season_29 : decode mC_season.2.1 29 = .ok (.iload_n 3, 1) := by decide +kernel
theorem dC_season_30 : decode mC_season.2.1 30 = .ok (.invokestatic 61, 3) := by decide +kernel
theorem dC_season_33 : decode mC_season.2.1 33 = .ok (.ifCond .eq 22, 3) := by decide +kernel
theorem dC_season_36 : decode mC_season.2.1 36 = .ok (.iload 5, 2) := by decide +kernel
theorem dC_season_38 : decode mC_season.2.1 38 = .ok (.invokestatic 142, 3) := by decide +kernel
theorem dC_season_41 : decode mC_season.2.1 41 = .ok (.ifCond .eq 14, 3) := by decide +kernel
theorem dC_season_44 : decode mC_season.2.1 44 = .ok (.iload 6, 2) := by decide +kernel
theorem dC_season_46 : decode mC_season.2.1 46 = .ok (.ifCond .lt 9, 3) := by decide +kernel
theorem dC_season_49 : decode mC_season.2.1 49 = .ok (.iload 6, 2) := by decide +kernel
theorem dC_season_51 : decode mC_season.2.1 51 = .ok (.iconst 4, 1) := by decide +kernel
theorem dC_season_52 : decode mC_season.2.1 52 = .ok (.if_icmp .le 6, 3) := by decide +kernel
theorem dC_season_55 : decode mC_season.2.1 55 = .ok (.bipush (-2), 2) := by decide +kernel
theorem dC_season_57 : decode mC_season.2.1 57 = .ok (.ireturn, 1) := by decide +kernel
theorem dC_season_58 : decode mC_season.2.1 58 = .ok (.aload_n 0, 1) := by decide +kernel
theorem dC_season_59 : decode mC_season.2.1 59 = .ok (.iload_n 2, 1) := by decide +kernel
theorem dC_season_60 : decode mC_season.2.1 60 = .ok (.iload_n 3, 1) := by decide +kernel
theorem dC_season_61 : decode mC_season.2.1 61 = .ok (.iload 4, 2) := by decide +kernel
theorem dC_season_63 : decode mC_season.2.1 63 = .ok (.iload 5, 2) := by decide +kernel
theorem dC_season_65 : decode mC_season.2.1 65 = .ok (.invokevirtual 145, 3) := by decide +kernel
theorem dC_season_68 : decode mC_season.2.1 68 = .ok (.istore 7, 2) := by decide +kernel
theorem dC_season_70 : decode mC_season.2.1 70 = .ok (.iload 7, 2) := by decide +kernel
theorem dC_season_72 : decode mC_season.2.1 72 = .ok (.ifCond .eq 6, 3) := by decide +kernel
theorem dC_season_75 : decode mC_season.2.1 75 = .ok (.iload 7, 2) := by decide +kernel
theorem dC_season_77 : decode mC_season.2.1 77 = .ok (.ireturn, 1) := by decide +kernel
theorem dC_season_78 : decode mC_season.2.1 78 = .ok (.aload_n 0, 1) := by decide +kernel
theorem dC_season_79 : decode mC_season.2.1 79 = .ok (.getfield 35, 3) := by decide +kernel
theorem dC_season_82 : decode mC_season.2.1 82 = .ok (.aload_n 0, 1) := by decide +kernel
theorem dC_season_83 : decode mC_season.2.1 83 = .ok (.getfield 12, 3) := by decide +kernel
theorem dC_season_86 : decode mC_season.2.1 86 = .ok (.aload_n 0, 1) := by decide +kernel
theorem dC_season_87 : decode mC_season.2.1 87 = .ok (.getfield 21, 3) := by decide +kernel
theorem dC_season_90 : decode mC_season.2.1 90 = .ok (.getfield 76, 3) := by decide +kernel
theorem dC_season_93 : decode mC_season.2.1 93 = .ok (.iload_n 2, 1) := by decide +kernel
theorem dC_season_94 : decode mC_season.2.1 94 = .ok (.aaload, 1) := by decide +kernel
theorem dC_season_95 : decode mC_season.2.1 95 = .ok (.iload 4, 2) := by decide +kernel
theorem dC_season_97 : decode mC_season.2.1 97 = .ok (.iload 5, 2) := by decide +kernel
theorem dC_season_99 : decode mC_season.2.1 99 = .ok (.iload_n 1, 1) := by decide +kernel
theorem dC_season_100 : decode mC_season.2.1 100 = .ok (.invokevirtual 149, 3) := by decide +kernel
theorem dC_season_103 : decode mC_season.2.1 103 = .ok (.iload 6, 2) := by decide +kernel
theorem dC_season_105 : decode mC_season.2.1 105 = .ok (.iconst 1, 1) := by decide +kernel
theorem dC_season_106 : decode mC_season.2.1 106 = .ok (.if_icmp .ne 11, 3) := by decide +kernel
theorem dC_season_109 : decode mC_season.2.1 109 = .ok (.aload_n 0, 1) := by decide +kernel
theorem dC_season_110 : decode mC_season.2.1 110 = .ok (.getfield 35, 3) := by decide +kernel
theorem dC_season_113 : decode mC_season.2.1 113 = .ok (.getfield 153, 3) := by decide +kernel
theorem dC_season_116 : decode mC_season.2.1 116 = .ok (.ireturn, 1) := by decide +kernel
theorem dC_season_117 : decode mC_season.2.1 117 = .ok (.aload_n 0, 1) := by decide +kernel
theorem dC_season_118 : decode mC_season.2.1 118 = .ok (.getfield 35, 3) := by decide +kernel
theorem dC_season_121 : decode mC_season.2.1 121 = .ok (.getfield 153, 3) := by decide +kernel
theorem dC_season_124 : decode mC_season.2.1 124 = .ok (.bipush (-9), 2) := by decide +kernel
theorem dC_season_126 : decode mC_season.2.1 126 = .ok (.if_icmp .eq 14, 3) := by decide +kernel
theorem dC_season_129 : decode mC_season.2.1 129 = .ok (.bipush (-100), 2) := by decide +kernel
theorem dC_season_131 : decode mC_season.2.1 131 = .ok (.aload_n 0, 1) := by decide +kernel
theorem dC_season_132 : decode mC_season.2.1 132 = .ok (.getfield 35, 3) := by decide +kernel
theorem dC_season_135 : decode mC_season.2.1 135 = .ok (.getfield 153, 3) := by decide +kernel
theorem dC_season_138 : decode mC_season.2.1 138 = .ok (.isub, 1) := by decide +kernel
theorem dC_season_139 : decode mC_season.2.1 139 = .ok (.ireturn, 1) := by decide +kernel
theorem dC_season_140 : decode mC_season.2.1 140 = .ok (.iload 6, 2) := by decide +kernel
theorem dC_season_142 : decode mC_season.2.1 142 = .ok (.tableswitch 54 0 3 #[30, 54, 38, 46], 30) := by decide +kernel
theorem dC_season_172 : decode mC_season.2.1 172 = .ok (.aload_n 0, 1) := by decide +kernel
theorem dC_season_173 : decode mC_season.2.1 173 = .ok (.getfield 35, 3) := by decide +kernel
theorem dC_season_176 : decode mC_season.2.1 176 = .ok (.getfield 156, 3) := by decide +kernel
theorem dC_season_179 : decode mC_season.2.1 179 = .ok (.ireturn, 1) := by decide +kernel
theorem dC_season_180 : decode mC_season.2.1 180 = .ok (.aload_n 0, 1) := by decide +kernel
theorem dC_season_181 : decode mC_season.2.1 181 = .ok (.getfield 35, 3) := by decide +kernel
theorem dC_season_184 : decode mC_season.2.1 184 = .ok (.getfield 157, 3) := by decide +kernel
theorem dC_season_187 : decode mC_season.2.1 187 = .ok (.ireturn, 1) := by decide +kernel
theorem dC_season_188 : decode mC_season.2.1 188 = .ok (.aload_n 0, 1) := by decide +kernel
theorem dC_season_189 : decode mC_season.2.1 189 = .ok (.getfield 35, 3) := by decide +kernel
theorem dC_season_192 : decode mC_season.2.1 192 = .ok (.getfield 160, 3) := by decide +kernel
theorem dC_season_195 : decode mC_season.2.1 195 = .ok (.ireturn, 1) := by decide +kernel
theorem dC_season_196 : decode mC_season.2.1 196 = .ok (.aload_n 0, 1) := by decide +kernel
theorem dC_season_197 : decode mC_season.2.1 197 = .ok (.getfield 35, 3) := by decide +kernel
theorem dC_season_200 : decode mC_season.2.1 200 = .ok (.getfield 163, 3) := by decide +kernel
theorem dC_season_203 : decode mC_season.2.1 203 = .ok (.ireturn, 1) := by decide +kernel
theorem dC_sheet_0 : decode mC_sheet.2.1 0 = .ok (.aload_n 0, 1) := by decide +kernel
theorem dC_sheet_1 : decode mC_sheet.2.1 1 = .ok (.iconst 0, 1) := by decide +kernel
theorem dC_sheet_2 : decode mC_sheet.2.1 2 = .ok (.putfield 53, 3) := by decide +kernel
theorem dC_sheet_5 : decode mC_sheet.2.1 5 = .ok (.aload_n 0, 1) := by decide +kernel
theorem dC_sheet_6 : decode mC_sheet.2.1 6 = .ok (.getfield 21, 3) := by decide +kernel
theorem dC_sheet_9 : decode mC_sheet.2.1 9 = .ok (.iload_n 1, 1) := by decide +kernel
theorem dC_sheet_10 : decode mC_sheet.2.1 10 = .ok (.invokevirtual 57, 3) := by decide +kernel
theorem dC_sheet_13 : decode mC_sheet.2.1 13 = .ok (.ifCond .ne 5, 3) := by decide +kernel
theorem dC_sheet_16 : decode mC_sheet.2.1 16 = .ok (.iconst (-1), 1) := by decide +kernel
theorem dC_sheet_17 : decode mC_sheet.2.1 17 = .ok (.ireturn, 1) := by decide +kernel
theorem dC_sheet_18 : decode mC_sheet.2.1 18 = .ok (.iload_n 2, 1) := by decide +kernel
theorem dC_sheet_19 : decode mC_sheet.2.1 19 = .ok (.invokestatic 61, 3) := by decide +kernel
theorem dC_sheet_22 : decode mC_sheet.2.1 22 = .ok (.ifCond .eq 9, 3) := by decide +kernel
theorem dC_sheet_25 : decode mC_sheet.2.1 25 = .ok (.iload_n 3, 1) := by decide +kernel
theorem dC_sheet_26 : decode mC_sheet.2.1 26 = .ok (.bipush 60, 2) := by decide +kernel
theorem dC_sheet_28 : decode mC_sheet.2.1 28 = .ok (.if_icmp .le 6, 3) := by decide +kernel
theorem dC_sheet_31 : decode mC_sheet.2.1 31 = .ok (.bipush (-2), 2) := by decide +kernel
theorem dC_sheet_33 : decode mC_sheet.2.1 33 = .ok (.ireturn, 1) := by decide +kernel
theorem dC_sheet_34 : decode mC_sheet.2.1 34 = .ok (.iload_n 3, 1) := by decide +kernel
theorem dC_sheet_35 : decode mC_sheet.2.1 35 = .ok (.ifCond .ge 9, 3) := by decide +kernel
theorem dC_sheet_38 : decode mC_sheet.2.1 38 = .ok (.aload_n 0, 1) := by decide +kernel
theorem dC_sheet_39 : decode mC_sheet.2.1 39 = .ok (.iconst 4, 1) := by decide +kernel
theorem dC_sheet_40 : decode mC_sheet.2.1 40 = .ok (.invokevirtual 68, 3) := by decide +kernel
theorem dC_sheet_43 : decode mC_sheet.2.1 43 = .ok (.ireturn, 1) := by decide +kernel
theorem dC_sheet_44 : decode mC_sheet.2.1 44 = .ok (.aload_n 0, 1) := by decide +kernel
theorem dC_sheet_45 : decode mC_sheet.2.1 45 = .ok (.getfield 21, 3) := by decide +kernel
theorem dC_sheet_48 : decode mC_sheet.2.1 48 = .ok (.iload_n 1, 1) := by decide +kernel
theorem dC_sheet_49 : decode mC_sheet.2.1 49 = .ok (.iload_n 2, 1) := by decide +kernel
theorem dC_sheet_50 : decode mC_sheet.2.1 50 = .ok (.iload_n 3, 1) := by decide +kernel
theorem dC_sheet_51 : decode mC_sheet.2.1 51 = .ok (.invokevirtual 199, 3) := by decide +kernel
theorem dC_sheet_54 : decode mC_sheet.2.1 54 = .ok (.iconst 1, 1) := by decide +kernel
theorem dC_sheet_55 : decode mC_sheet.2.1 55 = .ok (.ireturn, 1) := by decide +kernel
theorem dC_stars_0 : decode mC_stars.2.1 0 = .ok (.iload_n 1, 1) := by decide +kernel
theorem dC_stars_1 : decode mC_stars.2.1 1 = .ok (.invokestatic 133, 3) := by decide +kernel
theorem dC_stars_4 : decode mC_stars.2.1 4 = .ok (.ifCond .ne 6, 3) := by decide +kernel
theorem dC_stars_7 : decode mC_stars.2.1 7 = .ok (.bipush (-2), 2) := by decide +kernel
theorem dC_stars_9 : decode mC_stars.2.1 9 = .ok (.ireturn, 1) := by decide +kernel
theorem dC_stars_10 : decode mC_stars.2.1 10 = .ok (.aload_n 0, 1) := by decide +kernel
theorem dC_stars_11 : decode mC_stars.2.1 11 = .ok (.getfield 12, 3) := by decide +kernel
theorem dC_stars_14 : decode mC_stars.2.1 14 = .ok (.invokevirtual 126, 3) := by decide +kernel
theorem dC_stars_17 : decode mC_stars.2.1 17 = .ok (.ifCond .ne 6, 3) := by decide +kernel
theorem dC_stars_20 : decode mC_stars.2.1 20 = .ok (.bipush (-3), 2) := by decide +kernel
theorem dC_stars_22 : decode mC_stars.2.1 22 = .ok (.ireturn, 1) := by decide +kernel
theorem dC_stars_23 : decode mC_stars.2.1 23 = .ok (.aload_n 0, 1) := by decide +kernel
theorem dC_stars_24 : decode mC_stars.2.1 24 = .ok (.getfield 12, 3) := by decide +kernel
theorem dC_stars_27 : decode mC_stars.2.1 27 = .ok (.getfield 136, 3) := by decide +kernel
theorem dC_stars_30 : decode mC_stars.2.1 30 = .ok (.istore_n 2, 1) := by decide +kernel
theorem dC_stars_31 : decode mC_stars.2.1 31 = .ok (.aload_n 0, 1) := by decide +kernel
theorem dC_stars_32 : decode mC_stars.2.1 32 = .ok (.getfield 12, 3) := by decide +kernel
theorem dC_stars_35 : decode mC_stars.2.1 35 = .ok (.iload_n 1, 1) := by decide +kernel
theorem dC_stars_36 : decode mC_stars.2.1 36 = .ok (.putfield 136, 3) := by decide +kernel
theorem dC_stars_39 : decode mC_stars.2.1 39 = .ok (.iload_n 2, 1) := by decide +kernel
theorem dC_stars_40 : decode mC_stars.2.1 40 = .ok (.ireturn, 1) := by decide +kernel
theorem dC_strict_0 : decode mC_strict.2.1 0 = .ok (.iload_n 1, 1) := by decide +kernel
theorem dC_strict_1 : decode mC_strict.2.1 1 = .ok (.iconst 1, 1) := by decide +kernel
theorem dC_strict_2 : decode mC_strict.2.1 2 = .ok (.if_icmp .lt 9, 3) := by decide +kernel
theorem dC_strict_5 : decode mC_strict.2.1 5 = .ok (.iload_n 1, 1) := by decide +kernel
theorem dC_strict_6 : decode mC_strict.2.1 6 = .ok (.bipush 9, 2) := by decide +kernel
theorem dC_strict_8 : decode mC_strict.2.1 8 = .ok (.if_icmp .le 6, 3) := by decide +kernel
theorem dC_strict_11 : decode mC_strict.2.1 11 = .ok (.bipush (-2), 2) := by decide +kernel
theorem dC_strict_13 : decode mC_strict.2.1 13 = .ok (.ireturn, 1) := by decide +kernel
theorem dC_strict_14 : decode mC_strict.2.1 14 = .ok (.aload_n 0, 1) := by decide +kernel
theorem dC_strict_15 : decode mC_strict.2.1 15 = .ok (.getfield 12, 3) := by decide +kernel
theorem dC_strict_18 : decode mC_strict.2.1 18 = .ok (.invokevirtual 126, 3) := by decide +kernel
theorem dC_strict_21 : decode mC_strict.2.1 21 = .ok (.ifCond .ne 6, 3) := by decide +kernel
theorem dC_strict_24 : decode mC_strict.2.1 24 = .ok (.bipush (-3), 2) := by decide +kernel
theorem dC_strict_26 : decode mC_strict.2.1 26 = .ok (.ireturn, 1) := by decide +kernel
theorem dC_strict_27 : decode mC_strict.2.1 27 = .ok (.aload_n 0, 1) := by decide +kernel
theorem dC_strict_28 : decode mC_strict.2.1 28 = .ok (.getfield 12, 3) := by decide +kernel
theorem dC_strict_31 : decode mC_strict.2.1 31 = .ok (.getfield 130, 3) := by decide +kernel
theorem dC_strict_34 : decode mC_strict.2.1 34 = .ok (.istore_n 2, 1) := by decide +kernel
theorem dC_strict_35 : decode mC_strict.2.1 35 = .ok (.aload_n 0, 1) := by decide +kernel
theorem dC_strict_36 : decode mC_strict.2.1 36 = .ok (.getfield 12, 3) := by decide +kernel
theorem dC_strict_39 : decode mC_strict.2.1 39 = .ok (.iload_n 1, 1) := by decide +kernel
theorem dC_strict_40 : decode mC_strict.2.1 40 = .ok (.putfield 130, 3) := by decide +kernel
theorem dC_strict_43 : decode mC_strict.2.1 43 = .ok (.iload_n 2, 1) := by decide +kernel
theorem dC_strict_44 : decode mC_strict.2.1 44 = .ok (.ireturn, 1) := by decide +kernel
theorem dC_tastes_0 : decode mC_tastes.2.1 0 = .ok (.aload_n 0, 1) := by decide +kernel
theorem dC_tastes_1 : decode mC_tastes.2.1 1 = .ok (.getfield 12, 3) := by decide +kernel
theorem dC_tastes_4 : decode mC_tastes.2.1 4 = .ok (.iload_n 1, 1) := by decide +kernel
theorem dC_tastes_5 : decode mC_tastes.2.1 5 = .ok (.invokevirtual 101, 3) := by decide +kernel
theorem dC_tastes_8 : decode mC_tastes.2.1 8 = .ok (.ifCond .ne 5, 3) := by decide +kernel
theorem dC_tastes_11 : decode mC_tastes.2.1 11 = .ok (.iconst (-1), 1) := by decide +kernel
theorem dC_tastes_12 : decode mC_tastes.2.1 12 = .ok (.ireturn, 1) := by decide +kernel
theorem dC_tastes_13 : decode mC_tastes.2.1 13 = .ok (.aload_n 0, 1) := by decide +kernel
theorem dC_tastes_14 : decode mC_tastes.2.1 14 = .ok (.aload_n 0, 1) := by decide +kernel
theorem dC_tastes_15 : decode mC_tastes.2.1 15 = .ok (.getfield 12, 3) := by decide +kernel
theorem dC_tastes_18 : decode mC_tastes.2.1 18 = .ok (.getfield 108, 3) := by decide +kernel
theorem dC_tastes_21 : decode mC_tastes.2.1 21 = .ok (.iload_n 1, 1) := by decide +kernel
theorem dC_tastes_22 : decode mC_tastes.2.1 22 = .ok (.bipush 10, 2) := by decide +kernel
theorem dC_tastes_24 : decode mC_tastes.2.1 24 = .ok (.invokevirtual 190, 3) := by decide +kernel
theorem dC_tastes_27 : decode mC_tastes.2.1 27 = .ok (.ireturn, 1) := by decide +kernel
theorem dC_tell_0 : decode mC_tell.2.1 0 = .ok (.aload_n 0, 1) := by decide +kernel
theorem dC_tell_1 : decode mC_tell.2.1 1 = .ok (.getfield 12, 3) := by decide +kernel
theorem dC_tell_4 : decode mC_tell.2.1 4 = .ok (.iload_n 1, 1) := by decide +kernel
theorem dC_tell_5 : decode mC_tell.2.1 5 = .ok (.invokevirtual 101, 3) := by decide +kernel
theorem dC_tell_8 : decode mC_tell.2.1 8 = .ok (.ifCond .ne 5, 3) := by decide +kernel
theorem dC_tell_11 : decode mC_tell.2.1 11 = .ok (.iconst (-1), 1) := by decide +kernel
theorem dC_tell_12 : decode mC_tell.2.1 12 = .ok (.ireturn, 1) := by decide +kernel
theorem dC_tell_13 : decode mC_tell.2.1 13 = .ok (.aload_n 0, 1) := by decide +kernel
theorem dC_tell_14 : decode mC_tell.2.1 14 = .ok (.getfield 12, 3) := by decide +kernel
theorem dC_tell_17 : decode mC_tell.2.1 17 = .ok (.getfield 104, 3) := by decide +kernel
theorem dC_tell_20 : decode mC_tell.2.1 20 = .ok (.iload_n 1, 1) := by decide +kernel
theorem dC_tell_21 : decode mC_tell.2.1 21 = .ok (.iaload, 1) := by decide +kernel
theorem dC_tell_22 : decode mC_tell.2.1 22 = .ok (.lookupswitch 38 #[(1, 32), (2, 26)], 26) := by decide +kernel
theorem dC_tell_48 : decode mC_tell.2.1 48 = .ok (.aload_n 0, 1) := by decide +kernel
theorem dC_tell_49 : decode mC_tell.2.1 49 = .ok (.iload_n 1, 1) := by decide +kernel
theorem dC_tell_50 : decode mC_tell.2.1 50 = .ok (.invokevirtual 223, 3) := by decide +kernel
theorem dC_tell_53 : decode mC_tell.2.1 53 = .ok (.ireturn, 1) := by decide +kernel
theorem dC_tell_54 : decode mC_tell.2.1 54 = .ok (.aload_n 0, 1) := by decide +kernel
theorem dC_tell_55 : decode mC_tell.2.1 55 = .ok (.iload_n 1, 1) := by decide +kernel
theorem dC_tell_56 : decode mC_tell.2.1 56 = .ok (.invokevirtual 226, 3) := by decide +kernel
theorem dC_tell_59 : decode mC_tell.2.1 59 = .ok (.ireturn, 1) := by decide +kernel
theorem dC_tell_60 : decode mC_tell.2.1 60 = .ok (.aload_n 0, 1) := by decide +kernel
theorem dC_tell_61 : decode mC_tell.2.1 61 = .ok (.iload_n 1, 1) := by decide +kernel
theorem dC_tell_62 : decode mC_tell.2.1 62 = .ok (.invokevirtual 229, 3) := by decide +kernel
theorem dC_tell_65 : decode mC_tell.2.1 65 = .ok (.ireturn, 1) := by decide +kernel
theorem dC_tellAsCritic_0 : decode mC_tellAsCritic.2.1 0 = .ok (.aload_n 0, 1) := by decide +kernel
theorem dC_tellAsCritic_1 : decode mC_tellAsCritic.2.1 1 = .ok (.iconst 2, 1) := by decide +kernel
theorem dC_tellAsCritic_2 : decode mC_tellAsCritic.2.1 2 = .ok (.invokevirtual 232, 3) := by decide +kernel
theorem dC_tellAsCritic_5 : decode mC_tellAsCritic.2.1 5 = .ok (.aload_n 0, 1) := by decide +kernel
theorem dC_tellAsCritic_6 : decode mC_tellAsCritic.2.1 6 = .ok (.iload_n 1, 1) := by decide +kernel
theorem dC_tellAsCritic_7 : decode mC_tellAsCritic.2.1 7 = .ok (.invokevirtual 229, 3) := by decide +kernel
theorem dC_tellAsCritic_10 : decode mC_tellAsCritic.2.1 10 = .ok (.bipush 100, 2) := by decide +kernel
theorem dC_tellAsCritic_12 : decode mC_tellAsCritic.2.1 12 = .ok (.iadd, 1) := by decide +kernel
theorem dC_tellAsCritic_13 : decode mC_tellAsCritic.2.1 13 = .ok (.ireturn, 1) := by decide +kernel
theorem dC_tellAsGuest_0 : decode mC_tellAsGuest.2.1 0 = .ok (.aload_n 0, 1) := by decide +kernel
theorem dC_tellAsGuest_1 : decode mC_tellAsGuest.2.1 1 = .ok (.iconst 1, 1) := by decide +kernel
theorem dC_tellAsGuest_2 : decode mC_tellAsGuest.2.1 2 = .ok (.invokevirtual 232, 3) := by decide +kernel
theorem dC_tellAsGuest_5 : decode mC_tellAsGuest.2.1 5 = .ok (.aload_n 0, 1) := by decide +kernel
theorem dC_tellAsGuest_6 : decode mC_tellAsGuest.2.1 6 = .ok (.getfield 12, 3) := by decide +kernel
theorem dC_tellAsGuest_9 : decode mC_tellAsGuest.2.1 9 = .ok (.getfield 108, 3) := by decide +kernel
theorem dC_tellAsGuest_12 : decode mC_tellAsGuest.2.1 12 = .ok (.iload_n 1, 1) := by decide +kernel
theorem dC_tellAsGuest_13 : decode mC_tellAsGuest.2.1 13 = .ok (.iaload, 1) := by decide +kernel
theorem dC_tellAsGuest_14 : decode mC_tellAsGuest.2.1 14 = .ok (.ireturn, 1) := by decide +kernel
theorem dC_tellAsPoet_0 : decode mC_tellAsPoet.2.1 0 = .ok (.aload_n 0, 1) := by decide +kernel
theorem dC_tellAsPoet_1 : decode mC_tellAsPoet.2.1 1 = .ok (.iconst 3, 1) := by decide +kernel
theorem dC_tellAsPoet_2 : decode mC_tellAsPoet.2.1 2 = .ok (.invokevirtual 232, 3) := by decide +kernel
theorem dC_tellAsPoet_5 : decode mC_tellAsPoet.2.1 5 = .ok (.aload_n 0, 1) := by decide +kernel
theorem dC_tellAsPoet_6 : decode mC_tellAsPoet.2.1 6 = .ok (.iload_n 1, 1) := by decide +kernel
theorem dC_tellAsPoet_7 : decode mC_tellAsPoet.2.1 7 = .ok (.invokevirtual 226, 3) := by decide +kernel
theorem dC_tellAsPoet_10 : decode mC_tellAsPoet.2.1 10 = .ok (.istore_n 2, 1) := by decide +kernel
theorem dC_tellAsPoet_11 : decode mC_tellAsPoet.2.1 11 = .ok (.iload_n 2, 1) := by decide +kernel
theorem dC_tellAsPoet_12 : decode mC_tellAsPoet.2.1 12 = .ok (.aload_n 0, 1) := by decide +kernel
theorem dC_tellAsPoet_13 : decode mC_tellAsPoet.2.1 13 = .ok (.iload_n 1, 1) := by decide +kernel
theorem dC_tellAsPoet_14 : decode mC_tellAsPoet.2.1 14 = .ok (.invokevirtual 229, 3) := by decide +kernel
theorem dC_tellAsPoet_17 : decode mC_tellAsPoet.2.1 17 = .ok (.iadd, 1) := by decide +kernel
theorem dC_tellAsPoet_18 : decode mC_tellAsPoet.2.1 18 = .ok (.ireturn, 1) := by decide +kernel
theorem dC_trace_0 : decode mC_trace.2.1 0 = .ok (.aload_n 0, 1) := by decide +kernel
theorem dC_trace_1 : decode mC_trace.2.1 1 = .ok (.getfield 236, 3) := by decide +kernel
theorem dC_trace_4 : decode mC_trace.2.1 4 = .ok (.ireturn, 1) := by decide +kernel
theorem dH_init_0 : decode mH_init.2.1 0 = .ok (.aload_n 0, 1) := by decide +kernel
theorem dH_init_1 : decode mH_init.2.1 1 = .ok (.invokespecial 3, 3) := by decide +kernel
theorem dH_init_4 : decode mH_init.2.1 4 = .ok (.aload_n 0, 1) := by decide +kernel
theorem dH_init_5 : decode mH_init.2.1 5 = .ok (.iconst 4, 1) := by decide +kernel
theorem dH_init_6 : decode mH_init.2.1 6 = .ok (.newarray .int, 2) := by decide +kernel
theorem dH_init_8 : decode mH_init.2.1 8 = .ok (.putfield 9, 3) := by decide +kernel
theorem dH_init_11 : decode mH_init.2.1 11 = .ok (.aload_n 0, 1) := by decide +kernel
theorem dH_init_12 : decode mH_init.2.1 12 = .ok (.iconst 4, 1) := by decide +kernel
theorem dH_init_13 : decode mH_init.2.1 13 = .ok (.newarray .int, 2) := by decide +kernel
theorem dH_init_15 : decode mH_init.2.1 15 = .ok (.putfield 15, 3) := by decide +kernel
theorem dH_init_18 : decode mH_init.2.1 18 = .ok (.aload_n 0, 1) := by decide +kernel
theorem dH_init_19 : decode mH_init.2.1 19 = .ok (.bipush 6, 2) := by decide +kernel
theorem dH_init_21 : decode mH_init.2.1 21 = .ok (.newarray .int, 2) := by decide +kernel
theorem dH_init_23 : decode mH_init.2.1 23 = .ok (.putfield 18, 3) := by decide +kernel
theorem dH_init_26 : decode mH_init.2.1 26 = .ok (.aload_n 0, 1) := by decide +kernel
theorem dH_init_27 : decode mH_init.2.1 27 = .ok (.bipush 6, 2) := by decide +kernel
theorem dH_init_29 : decode mH_init.2.1 29 = .ok (.newarray .int, 2) := by decide +kernel
theorem dH_init_31 : decode mH_init.2.1 31 = .ok (.putfield 21, 3) := by decide +kernel
theorem dH_init_34 : decode mH_init.2.1 34 = .ok (.aload_n 0, 1) := by decide +kernel
theorem dH_init_35 : decode mH_init.2.1 35 = .ok (.bipush 6, 2) := by decide +kernel
theorem dH_init_37 : decode mH_init.2.1 37 = .ok (.newarray .int, 2) := by decide +kernel
theorem dH_init_39 : decode mH_init.2.1 39 = .ok (.putfield 24, 3) := by decide +kernel
theorem dH_init_42 : decode mH_init.2.1 42 = .ok (.return_, 1) := by decide +kernel
theorem dH_isDoing_0 : decode mH_isDoing.2.1 0 = .ok (.iload_n 1, 1) := by decide +kernel
theorem dH_isDoing_1 : decode mH_isDoing.2.1 1 = .ok (.ifCond .lt 15, 3) := by decide +kernel
theorem dH_isDoing_4 : decode mH_isDoing.2.1 4 = .ok (.iload_n 1, 1) := by decide +kernel
theorem dH_isDoing_5 : decode mH_isDoing.2.1 5 = .ok (.aload_n 0, 1) := by decide +kernel
theorem dH_isDoing_6 : decode mH_isDoing.2.1 6 = .ok (.getfield 31, 3) := by decide +kernel
theorem dH_isDoing_9 : decode mH_isDoing.2.1 9 = .ok (.if_icmp .ge 7, 3) := by decide +kernel
theorem dH_isDoing_12 : decode mH_isDoing.2.1 12 = .ok (.iconst 1, 1) := by decide +kernel
theorem dH_isDoing_13 : decode mH_isDoing.2.1 13 = .ok (.goto 4, 3) := by decide +kernel
theorem dH_isDoing_16 : decode mH_isDoing.2.1 16 = .ok (.iconst 0, 1) := by decide +kernel
theorem dH_isDoing_17 : decode mH_isDoing.2.1 17 = .ok (.ireturn, 1) := by decide +kernel
theorem dH_isGuest_0 : decode mH_isGuest.2.1 0 = .ok (.iload_n 1, 1) := by decide +kernel
theorem dH_isGuest_1 : decode mH_isGuest.2.1 1 = .ok (.ifCond .lt 15, 3) := by decide +kernel
theorem dH_isGuest_4 : decode mH_isGuest.2.1 4 = .ok (.iload_n 1, 1) := by decide +kernel
theorem dH_isGuest_5 : decode mH_isGuest.2.1 5 = .ok (.aload_n 0, 1) := by decide +kernel
theorem dH_isGuest_6 : decode mH_isGuest.2.1 6 = .ok (.getfield 27, 3) := by decide +kernel
theorem dH_isGuest_9 : decode mH_isGuest.2.1 9 = .ok (.if_icmp .ge 7, 3) := by decide +kernel
theorem dH_isGuest_12 : decode mH_isGuest.2.1 12 = .ok (.iconst 1, 1) := by decide +kernel
theorem dH_isGuest_13 : decode mH_isGuest.2.1 13 = .ok (.goto 4, 3) := by decide +kernel
theorem dH_isGuest_16 : decode mH_isGuest.2.1 16 = .ok (.iconst 0, 1) := by decide +kernel
theorem dH_isGuest_17 : decode mH_isGuest.2.1 17 = .ok (.ireturn, 1) := by decide +kernel
theorem dH_isOpen_0 : decode mH_isOpen.2.1 0 = .ok (.aload_n 0, 1) := by decide +kernel
theorem dH_isOpen_1 : decode mH_isOpen.2.1 1 = .ok (.getfield 27, 3) := by decide +kernel
theorem dH_isOpen_4 : decode mH_isOpen.2.1 4 = .ok (.ifCond .le 7, 3) := by decide +kernel
theorem dH_isOpen_7 : decode mH_isOpen.2.1 7 = .ok (.iconst 1, 1) := by decide +kernel
theorem dH_isOpen_8 : decode mH_isOpen.2.1 8 = .ok (.goto 4, 3) := by decide +kernel
theorem dH_isOpen_11 : decode mH_isOpen.2.1 11 = .ok (.iconst 0, 1) := by decide +kernel
theorem dH_isOpen_12 : decode mH_isOpen.2.1 12 = .ok (.ireturn, 1) := by decide +kernel
theorem dH_isWon_0 : decode mH_isWon.2.1 0 = .ok (.aload_n 0, 1) := by decide +kernel
theorem dH_isWon_1 : decode mH_isWon.2.1 1 = .ok (.iload_n 1, 1) := by decide +kernel
theorem dH_isWon_2 : decode mH_isWon.2.1 2 = .ok (.iload_n 2, 1) := by decide +kernel
theorem dH_isWon_3 : decode mH_isWon.2.1 3 = .ok (.invokevirtual 44, 3) := by decide +kernel
theorem dH_isWon_6 : decode mH_isWon.2.1 6 = .ok (.aload_n 0, 1) := by decide +kernel
theorem dH_isWon_7 : decode mH_isWon.2.1 7 = .ok (.getfield 37, 3) := by decide +kernel
theorem dH_isWon_10 : decode mH_isWon.2.1 10 = .ok (.if_icmp .lt 7, 3) := by decide +kernel
theorem dH_isWon_13 : decode mH_isWon.2.1 13 = .ok (.iconst 1, 1) := by decide +kernel
theorem dH_isWon_14 : decode mH_isWon.2.1 14 = .ok (.goto 4, 3) := by decide +kernel
theorem dH_isWon_17 : decode mH_isWon.2.1 17 = .ok (.iconst 0, 1) := by decide +kernel
theorem dH_isWon_18 : decode mH_isWon.2.1 18 = .ok (.ireturn, 1) := by decide +kernel
theorem dH_kindOf_0 : decode mH_kindOf.2.1 0 = .ok (.iload_n 0, 1) := by decide +kernel
theorem dH_kindOf_1 : decode mH_kindOf.2.1 1 = .ok (.lookupswitch 31 #[(99, 29), (112, 27)], 27) := by decide +kernel
theorem dH_kindOf_28 : decode mH_kindOf.2.1 28 = .ok (.iconst 2, 1) := by decide +kernel
theorem dH_kindOf_29 : decode mH_kindOf.2.1 29 = .ok (.ireturn, 1) := by decide +kernel
theorem dH_kindOf_30 : decode mH_kindOf.2.1 30 = .ok (.iconst 1, 1) := by decide +kernel
theorem dH_kindOf_31 : decode mH_kindOf.2.1 31 = .ok (.ireturn, 1) := by decide +kernel
theorem dH_kindOf_32 : decode mH_kindOf.2.1 32 = .ok (.iconst 0, 1) := by decide +kernel
theorem dH_kindOf_33 : decode mH_kindOf.2.1 33 = .ok (.ireturn, 1) := by decide +kernel
theorem dH_open_0 : decode mH_open.2.1 0 = .ok (.aload_n 0, 1) := by decide +kernel
theorem dH_open_1 : decode mH_open.2.1 1 = .ok (.aload_n 1, 1) := by decide +kernel
theorem dH_open_2 : decode mH_open.2.1 2 = .ok (.iload_n 2, 1) := by decide +kernel
theorem dH_open_3 : decode mH_open.2.1 3 = .ok (.iconst 1, 1) := by decide +kernel
theorem dH_open_4 : decode mH_open.2.1 4 = .ok (.iadd, 1) := by decide +kernel
theorem dH_open_5 : decode mH_open.2.1 5 = .ok (.iaload, 1) := by decide +kernel
theorem dH_open_6 : decode mH_open.2.1 6 = .ok (.bipush 48, 2) := by decide +kernel
theorem dH_open_8 : decode mH_open.2.1 8 = .ok (.isub, 1) := by decide +kernel
theorem dH_open_9 : decode mH_open.2.1 9 = .ok (.putfield 34, 3) := by decide +kernel
theorem dH_open_12 : decode mH_open.2.1 12 = .ok (.aload_n 0, 1) := by decide +kernel
theorem dH_open_13 : decode mH_open.2.1 13 = .ok (.aload_n 1, 1) := by decide +kernel
theorem dH_open_14 : decode mH_open.2.1 14 = .ok (.iload_n 2, 1) := by decide +kernel
theorem dH_open_15 : decode mH_open.2.1 15 = .ok (.iconst 2, 1) := by decide +kernel
theorem dH_open_16 : decode mH_open.2.1 16 = .ok (.iadd, 1) := by decide +kernel
theorem dH_open_17 : decode mH_open.2.1 17 = .ok (.iaload, 1) := by decide +kernel
theorem dH_open_18 : decode mH_open.2.1 18 = .ok (.bipush 48, 2) := by decide +kernel
theorem dH_open_20 : decode mH_open.2.1 20 = .ok (.isub, 1) := by decide +kernel
theorem dH_open_21 : decode mH_open.2.1 21 = .ok (.putfield 37, 3) := by decide +kernel
theorem dH_open_24 : decode mH_open.2.1 24 = .ok (.aload_n 0, 1) := by decide +kernel
theorem dH_open_25 : decode mH_open.2.1 25 = .ok (.iload_n 3, 1) := by decide +kernel
theorem dH_open_26 : decode mH_open.2.1 26 = .ok (.putfield 31, 3) := by decide +kernel
theorem dH_open_29 : decode mH_open.2.1 29 = .ok (.aload_n 0, 1) := by decide +kernel
theorem dH_open_30 : decode mH_open.2.1 30 = .ok (.iload 4, 2) := by decide +kernel
theorem dH_open_32 : decode mH_open.2.1 32 = .ok (.putfield 27, 3) := by decide +kernel
theorem dH_open_35 : decode mH_open.2.1 35 = .ok (.iload_n 2, 1) := by decide +kernel
theorem dH_open_36 : decode mH_open.2.1 36 = .ok (.iconst 3, 1) := by decide +kernel
theorem dH_open_37 : decode mH_open.2.1 37 = .ok (.iadd, 1) := by decide +kernel
theorem dH_open_38 : decode mH_open.2.1 38 = .ok (.istore 5, 2) := by decide +kernel
theorem dH_open_40 : decode mH_open.2.1 40 = .ok (.iconst 0, 1) := by decide +kernel
theorem dH_open_41 : decode mH_open.2.1 41 = .ok (.istore 6, 2) := by decide +kernel
theorem dH_open_43 : decode mH_open.2.1 43 = .ok (.iload 6, 2) := by decide +kernel
theorem dH_open_45 : decode mH_open.2.1 45 = .ok (.aload_n 0, 1) := by decide +kernel
theorem dH_open_46 : decode mH_open.2.1 46 = .ok (.getfield 31, 3) := by decide +kernel
theorem dH_open_49 : decode mH_open.2.1 49 = .ok (.if_icmp .ge 44, 3) := by decide +kernel
theorem dH_open_52 : decode mH_open.2.1 52 = .ok (.aload_n 0, 1) := by decide +kernel
theorem dH_open_53 : decode mH_open.2.1 53 = .ok (.getfield 9, 3) := by decide +kernel
theorem dH_open_56 : decode mH_open.2.1 56 = .ok (.iload 6, 2) := by decide +kernel
theorem dH_open_58 : decode mH_open.2.1 58 = .ok (.aload_n 1, 1) := by decide +kernel
theorem dH_open_59 : decode mH_open.2.1 59 = .ok (.iload 5, 2) := by decide +kernel
theorem dH_open_61 : decode mH_open.2.1 61 = .ok (.iconst 1, 1) := by decide +kernel
theorem dH_open_62 : decode mH_open.2.1 62 = .ok (.iadd, 1) := by decide +kernel
theorem dH_open_63 : decode mH_open.2.1 63 = .ok (.iaload, 1) := by decide +kernel
theorem dH_open_64 : decode mH_open.2.1 64 = .ok (.bipush 48, 2) := by decide +kernel
theorem dH_open_66 : decode mH_open.2.1 66 = .ok (.isub, 1) := by decide +kernel
theorem dH_open_67 : decode mH_open.2.1 67 = .ok (.iastore, 1) := by decide +kernel
theorem dH_open_68 : decode mH_open.2.1 68 = .ok (.aload_n 0, 1) := by decide +kernel
theorem dH_open_69 : decode mH_open.2.1 69 = .ok (.getfield 15, 3) := by decide +kernel
theorem dH_open_72 : decode mH_open.2.1 72 = .ok (.iload 6, 2) := by decide +kernel
theorem dH_open_74 : decode mH_open.2.1 74 = .ok (.aload_n 1, 1) := by decide +kernel
theorem dH_open_75 : decode mH_open.2.1 75 = .ok (.iload 5, 2) := by decide +kernel
theorem dH_open_77 : decode mH_open.2.1 77 = .ok (.iconst 2, 1) := by decide +kernel
theorem dH_open_78 : decode mH_open.2.1 78 = .ok (.iadd, 1) := by decide +kernel
theorem dH_open_79 : decode mH_open.2.1 79 = .ok (.iaload, 1) := by decide +kernel
theorem dH_open_80 : decode mH_open.2.1 80 = .ok (.bipush 48, 2) := by decide +kernel
theorem dH_open_82 : decode mH_open.2.1 82 = .ok (.isub, 1) := by decide +kernel
theorem dH_open_83 : decode mH_open.2.1 83 = .ok (.iastore, 1) := by decide +kernel
theorem dH_open_84 : decode mH_open.2.1 84 = .ok (.iinc 5 3, 3) := by decide +kernel
theorem dH_open_87 : decode mH_open.2.1 87 = .ok (.iinc 6 1, 3) := by decide +kernel
theorem dH_open_90 : decode mH_open.2.1 90 = .ok (.goto (-47), 3) := by decide +kernel
theorem dH_open_93 : decode mH_open.2.1 93 = .ok (.iconst 0, 1) := by decide +kernel
theorem dH_open_94 : decode mH_open.2.1 94 = .ok (.istore 6, 2) := by decide +kernel
theorem dH_open_96 : decode mH_open.2.1 96 = .ok (.iload 6, 2) := by decide +kernel
theorem dH_open_98 : decode mH_open.2.1 98 = .ok (.aload_n 0, 1) := by decide +kernel
theorem dH_open_99 : decode mH_open.2.1 99 = .ok (.getfield 27, 3) := by decide +kernel
theorem dH_open_102 : decode mH_open.2.1 102 = .ok (.if_icmp .ge 60, 3) := by decide +kernel
theorem dH_open_105 : decode mH_open.2.1 105 = .ok (.aload_n 0, 1) := by decide +kernel
theorem dH_open_106 : decode mH_open.2.1 106 = .ok (.getfield 18, 3) := by decide +kernel
theorem dH_open_109 : decode mH_open.2.1 109 = .ok (.iload 6, 2) := by decide +kernel
theorem dH_open_111 : decode mH_open.2.1 111 = .ok (.aload_n 1, 1) := by decide +kernel
theorem dH_open_112 : decode mH_open.2.1 112 = .ok (.iload 5, 2) := by decide +kernel
theorem dH_open_114 : decode mH_open.2.1 114 = .ok (.iconst 1, 1) := by decide +kernel
theorem dH_open_115 : decode mH_open.2.1 115 = .ok (.iadd, 1) := by decide +kernel
theorem dH_open_116 : decode mH_open.2.1 116 = .ok (.iaload, 1) := by decide +kernel
theorem dH_open_117 : decode mH_open.2.1 117 = .ok (.invokestatic 40, 3) := by decide +kernel
theorem dH_open_120 : decode mH_open.2.1 120 = .ok (.iastore, 1) := by decide +kernel
theorem dH_open_121 : decode mH_open.2.1 121 = .ok (.aload_n 0, 1) := by decide +kernel
theorem dH_open_122 : decode mH_open.2.1 122 = .ok (.getfield 21, 3) := by decide +kernel
theorem dH_open_125 : decode mH_open.2.1 125 = .ok (.iload 6, 2) := by decide +kernel
theorem dH_open_127 : decode mH_open.2.1 127 = .ok (.aload_n 1, 1) := by decide +kernel
theorem dH_open_128 : decode mH_open.2.1 128 = .ok (.iload 5, 2) := by decide +kernel
theorem dH_open_130 : decode mH_open.2.1 130 = .ok (.iconst 2, 1) := by decide +kernel
theorem dH_open_131 : decode mH_open.2.1 131 = .ok (.iadd, 1) := by decide +kernel
theorem dH_open_132 : decode mH_open.2.1 132 = .ok (.iaload, 1) := by decide +kernel
theorem dH_open_133 : decode mH_open.2.1 133 = .ok (.bipush 48, 2) := by decide +kernel
theorem dH_open_135 : decode mH_open.2.1 135 = .ok (.isub, 1) := by decide +kernel
theorem dH_open_136 : decode mH_open.2.1 136 = .ok (.iastore, 1) := by decide +kernel
theorem dH_open_137 : decode mH_open.2.1 137 = .ok (.aload_n 0, 1) := by decide +kernel
theorem dH_open_138 : decode mH_open.2.1 138 = .ok (.getfield 24, 3) := by decide +kernel
theorem dH_open_141 : decode mH_open.2.1 141 = .ok (.iload 6, 2) := by decide +kernel
theorem dH_open_143 : decode mH_open.2.1 143 = .ok (.aload_n 1, 1) := by decide +kernel
theorem dH_open_144 : decode mH_open.2.1 144 = .ok (.iload 5, 2) := by decide +kernel
theorem dH_open_146 : decode mH_open.2.1 146 = .ok (.iconst 3, 1) := by decide +kernel
theorem dH_open_147 : decode mH_open.2.1 147 = .ok (.iadd, 1) := by decide +kernel
theorem dH_open_148 : decode mH_open.2.1 148 = .ok (.iaload, 1) := by decide +kernel
theorem dH_open_149 : decode mH_open.2.1 149 = .ok (.bipush 48, 2) := by decide +kernel
theorem dH_open_151 : decode mH_open.2.1 151 = .ok (.isub, 1) := by decide +kernel
theorem dH_open_152 : decode mH_open.2.1 152 = .ok (.iastore, 1) := by decide +kernel
theorem dH_open_153 : decode mH_open.2.1 153 = .ok (.iinc 5 4, 3) := by decide +kernel
theorem dH_open_156 : decode mH_open.2.1 156 = .ok (.iinc 6 1, 3) := by decide +kernel
theorem dH_open_159 : decode mH_open.2.1 159 = .ok (.goto (-63), 3) := by decide +kernel
theorem dH_open_162 : decode mH_open.2.1 162 = .ok (.return_, 1) := by decide +kernel
theorem dH_pleasure_0 : decode mH_pleasure.2.1 0 = .ok (.aload_n 0, 1) := by decide +kernel
theorem dH_pleasure_1 : decode mH_pleasure.2.1 1 = .ok (.getfield 24, 3) := by decide +kernel
theorem dH_pleasure_4 : decode mH_pleasure.2.1 4 = .ok (.iload_n 1, 1) := by decide +kernel
theorem dH_pleasure_5 : decode mH_pleasure.2.1 5 = .ok (.iaload, 1) := by decide +kernel
theorem dH_pleasure_6 : decode mH_pleasure.2.1 6 = .ok (.iload_n 2, 1) := by decide +kernel
theorem dH_pleasure_7 : decode mH_pleasure.2.1 7 = .ok (.if_icmp .ne 7, 3) := by decide +kernel
theorem dH_pleasure_10 : decode mH_pleasure.2.1 10 = .ok (.iconst 1, 1) := by decide +kernel
theorem dH_pleasure_11 : decode mH_pleasure.2.1 11 = .ok (.goto 4, 3) := by decide +kernel
theorem dH_pleasure_14 : decode mH_pleasure.2.1 14 = .ok (.iconst 0, 1) := by decide +kernel
theorem dH_pleasure_15 : decode mH_pleasure.2.1 15 = .ok (.istore_n 3, 1) := by decide +kernel
theorem dH_pleasure_16 : decode mH_pleasure.2.1 16 = .ok (.aload_n 0, 1) := by decide +kernel
theorem dH_pleasure_17 : decode mH_pleasure.2.1 17 = .ok (.getfield 9, 3) := by decide +kernel
theorem dH_pleasure_20 : decode mH_pleasure.2.1 20 = .ok (.iload_n 2, 1) := by decide +kernel
theorem dH_pleasure_21 : decode mH_pleasure.2.1 21 = .ok (.iaload, 1) := by decide +kernel
theorem dH_pleasure_22 : decode mH_pleasure.2.1 22 = .ok (.aload_n 0, 1) := by decide +kernel
theorem dH_pleasure_23 : decode mH_pleasure.2.1 23 = .ok (.getfield 21, 3) := by decide +kernel
theorem dH_pleasure_26 : decode mH_pleasure.2.1 26 = .ok (.iload_n 1, 1) := by decide +kernel
theorem dH_pleasure_27 : decode mH_pleasure.2.1 27 = .ok (.iaload, 1) := by decide +kernel
theorem dH_pleasure_28 : decode mH_pleasure.2.1 28 = .ok (.iadd, 1) := by decide +kernel
theorem dH_pleasure_29 : decode mH_pleasure.2.1 29 = .ok (.iload_n 3, 1) := by decide +kernel
theorem dH_pleasure_30 : decode mH_pleasure.2.1 30 = .ok (.ifCond .eq 7, 3) := by decide +kernel
theorem dH_pleasure_33 : decode mH_pleasure.2.1 33 = .ok (.iconst 3, 1) := by decide +kernel
theorem dH_pleasure_34 : decode mH_pleasure.2.1 34 = .ok (.goto 4, 3) := by decide +kernel
theorem dH_pleasure_37 : decode mH_pleasure.2.1 37 = .ok (.iconst 0, 1) := by decide +kernel
theorem dH_pleasure_38 : decode mH_pleasure.2.1 38 = .ok (.iadd, 1) := by decide +kernel
theorem dH_pleasure_39 : decode mH_pleasure.2.1 39 = .ok (.istore 4, 2) := by decide +kernel
theorem dH_pleasure_41 : decode mH_pleasure.2.1 41 = .ok (.aload_n 0, 1) := by decide +kernel
theorem dH_pleasure_42 : decode mH_pleasure.2.1 42 = .ok (.getfield 18, 3) := by decide +kernel
theorem dH_pleasure_45 : decode mH_pleasure.2.1 45 = .ok (.iload_n 1, 1) := by decide +kernel
theorem dH_pleasure_46 : decode mH_pleasure.2.1 46 = .ok (.iaload, 1) := by decide +kernel
theorem dH_pleasure_47 : decode mH_pleasure.2.1 47 = .ok (.lookupswitch 45 #[(1, 40), (2, 25)], 25) := by decide +kernel
theorem dH_pleasure_72 : decode mH_pleasure.2.1 72 = .ok (.iload_n 3, 1) := by decide +kernel
theorem dH_pleasure_73 : decode mH_pleasure.2.1 73 = .ok (.ifCond .eq 12, 3) := by decide +kernel
theorem dH_pleasure_76 : decode mH_pleasure.2.1 76 = .ok (.iload 4, 2) := by decide +kernel
theorem dH_pleasure_78 : decode mH_pleasure.2.1 78 = .ok (.iconst 2, 1) := by decide +kernel
theorem dH_pleasure_79 : decode mH_pleasure.2.1 79 = .ok (.idiv, 1) := by decide +kernel
theorem dH_pleasure_80 : decode mH_pleasure.2.1 80 = .ok (.iconst 2, 1) := by decide +kernel
theorem dH_pleasure_81 : decode mH_pleasure.2.1 81 = .ok (.iadd, 1) := by decide +kernel
theorem dH_pleasure_82 : decode mH_pleasure.2.1 82 = .ok (.goto 4, 3) := by decide +kernel
theorem dH_pleasure_85 : decode mH_pleasure.2.1 85 = .ok (.iconst 0, 1) := by decide +kernel
theorem dH_pleasure_86 : decode mH_pleasure.2.1 86 = .ok (.ireturn, 1) := by decide +kernel
theorem dH_pleasure_87 : decode mH_pleasure.2.1 87 = .ok (.iload 4, 2) := by decide +kernel
theorem dH_pleasure_89 : decode mH_pleasure.2.1 89 = .ok (.iconst 2, 1) := by decide +kernel
theorem dH_pleasure_90 : decode mH_pleasure.2.1 90 = .ok (.idiv, 1) := by decide +kernel
theorem dH_pleasure_91 : decode mH_pleasure.2.1 91 = .ok (.ireturn, 1) := by decide +kernel
theorem dH_pleasure_92 : decode mH_pleasure.2.1 92 = .ok (.iload 4, 2) := by decide +kernel
theorem dH_pleasure_94 : decode mH_pleasure.2.1 94 = .ok (.ireturn, 1) := by decide +kernel
theorem dH_wonBy_0 : decode mH_wonBy.2.1 0 = .ok (.iconst 0, 1) := by decide +kernel
theorem dH_wonBy_1 : decode mH_wonBy.2.1 1 = .ok (.istore_n 2, 1) := by decide +kernel
theorem dH_wonBy_2 : decode mH_wonBy.2.1 2 = .ok (.iconst 0, 1) := by decide +kernel
theorem dH_wonBy_3 : decode mH_wonBy.2.1 3 = .ok (.istore_n 3, 1) := by decide +kernel
theorem dH_wonBy_4 : decode mH_wonBy.2.1 4 = .ok (.iload_n 3, 1) := by decide +kernel
theorem dH_wonBy_5 : decode mH_wonBy.2.1 5 = .ok (.aload_n 0, 1) := by decide +kernel
theorem dH_wonBy_6 : decode mH_wonBy.2.1 6 = .ok (.getfield 27, 3) := by decide +kernel
theorem dH_wonBy_9 : decode mH_wonBy.2.1 9 = .ok (.if_icmp .ge 24, 3) := by decide +kernel
theorem dH_wonBy_12 : decode mH_wonBy.2.1 12 = .ok (.aload_n 0, 1) := by decide +kernel
theorem dH_wonBy_13 : decode mH_wonBy.2.1 13 = .ok (.iload_n 3, 1) := by decide +kernel
theorem dH_wonBy_14 : decode mH_wonBy.2.1 14 = .ok (.iload_n 1, 1) := by decide +kernel
theorem dH_wonBy_15 : decode mH_wonBy.2.1 15 = .ok (.invokevirtual 48, 3) := by decide +kernel
theorem dH_wonBy_18 : decode mH_wonBy.2.1 18 = .ok (.ifCond .eq 9, 3) := by decide +kernel
theorem dH_wonBy_21 : decode mH_wonBy.2.1 21 = .ok (.iload_n 2, 1) := by decide +kernel
theorem dH_wonBy_22 : decode mH_wonBy.2.1 22 = .ok (.iconst 1, 1) := by decide +kernel
theorem dH_wonBy_23 : decode mH_wonBy.2.1 23 = .ok (.iload_n 3, 1) := by decide +kernel
theorem dH_wonBy_24 : decode mH_wonBy.2.1 24 = .ok (.ishl, 1) := by decide +kernel
theorem dH_wonBy_25 : decode mH_wonBy.2.1 25 = .ok (.ior, 1) := by decide +kernel
theorem dH_wonBy_26 : decode mH_wonBy.2.1 26 = .ok (.istore_n 2, 1) := by decide +kernel
theorem dH_wonBy_27 : decode mH_wonBy.2.1 27 = .ok (.iinc 3 1, 3) := by decide +kernel
theorem dH_wonBy_30 : decode mH_wonBy.2.1 30 = .ok (.goto (-26), 3) := by decide +kernel
theorem dH_wonBy_33 : decode mH_wonBy.2.1 33 = .ok (.iload_n 2, 1) := by decide +kernel
theorem dH_wonBy_34 : decode mH_wonBy.2.1 34 = .ok (.ireturn, 1) := by decide +kernel
theorem dL_add_0 : decode mL_add.2.1 0 = .ok (.aload_n 0, 1) := by decide +kernel
theorem dL_add_1 : decode mL_add.2.1 1 = .ok (.getfield 9, 3) := by decide +kernel
theorem dL_add_4 : decode mL_add.2.1 4 = .ok (.aload_n 0, 1) := by decide +kernel
theorem dL_add_5 : decode mL_add.2.1 5 = .ok (.getfield 22, 3) := by decide +kernel
theorem dL_add_8 : decode mL_add.2.1 8 = .ok (.iload_n 1, 1) := by decide +kernel
theorem dL_add_9 : decode mL_add.2.1 9 = .ok (.iastore, 1) := by decide +kernel
theorem dL_add_10 : decode mL_add.2.1 10 = .ok (.aload_n 0, 1) := by decide +kernel
theorem dL_add_11 : decode mL_add.2.1 11 = .ok (.getfield 15, 3) := by decide +kernel
theorem dL_add_14 : decode mL_add.2.1 14 = .ok (.aload_n 0, 1) := by decide +kernel
theorem dL_add_15 : decode mL_add.2.1 15 = .ok (.getfield 22, 3) := by decide +kernel
theorem dL_add_18 : decode mL_add.2.1 18 = .ok (.iload_n 2, 1) := by decide +kernel
theorem dL_add_19 : decode mL_add.2.1 19 = .ok (.iastore, 1) := by decide +kernel
theorem dL_add_20 : decode mL_add.2.1 20 = .ok (.aload_n 0, 1) := by decide +kernel
theorem dL_add_21 : decode mL_add.2.1 21 = .ok (.getfield 18, 3) := by decide +kernel
theorem dL_add_24 : decode mL_add.2.1 24 = .ok (.aload_n 0, 1) := by decide +kernel
theorem dL_add_25 : decode mL_add.2.1 25 = .ok (.getfield 22, 3) := by decide +kernel
theorem dL_add_28 : decode mL_add.2.1 28 = .ok (.iload_n 3, 1) := by decide +kernel
theorem dL_add_29 : decode mL_add.2.1 29 = .ok (.bastore, 1) := by decide +kernel
theorem dL_add_30 : decode mL_add.2.1 30 = .ok (.aload_n 0, 1) := by decide +kernel
theorem dL_add_31 : decode mL_add.2.1 31 = .ok (.dup, 1) := by decide +kernel
theorem dL_add_32 : decode mL_add.2.1 32 = .ok (.getfield 22, 3) := by decide +kernel
theorem dL_add_35 : decode mL_add.2.1 35 = .ok (.iconst 1, 1) := by decide +kernel
theorem dL_add_36 : decode mL_add.2.1 36 = .ok (.iadd, 1) := by decide +kernel
theorem dL_add_37 : decode mL_add.2.1 37 = .ok (.putfield 22, 3) := by decide +kernel
theorem dL_add_40 : decode mL_add.2.1 40 = .ok (.aload_n 0, 1) := by decide +kernel
theorem dL_add_41 : decode mL_add.2.1 41 = .ok (.getfield 22, 3) := by decide +kernel
theorem dL_add_44 : decode mL_add.2.1 44 = .ok (.iconst 1, 1) := by decide +kernel
theorem dL_add_45 : decode mL_add.2.1 45 = .ok (.isub, 1) := by decide +kernel
theorem dL_add_46 : decode mL_add.2.1 46 = .ok (.ireturn, 1) := by decide +kernel
theorem dL_init_0 : decode mL_init.2.1 0 = .ok (.aload_n 0, 1) := by decide +kernel
theorem dL_init_1 : decode mL_init.2.1 1 = .ok (.invokespecial 3, 3) := by decide +kernel
theorem dL_init_4 : decode mL_init.2.1 4 = .ok (.aload_n 0, 1) := by decide +kernel
theorem dL_init_5 : decode mL_init.2.1 5 = .ok (.bipush 8, 2) := by decide +kernel
theorem dL_init_7 : decode mL_init.2.1 7 = .ok (.newarray .int, 2) := by decide +kernel
theorem dL_init_9 : decode mL_init.2.1 9 = .ok (.putfield 9, 3) := by decide +kernel
theorem dL_init_12 : decode mL_init.2.1 12 = .ok (.aload_n 0, 1) := by decide +kernel
theorem dL_init_13 : decode mL_init.2.1 13 = .ok (.bipush 8, 2) := by decide +kernel
theorem dL_init_15 : decode mL_init.2.1 15 = .ok (.newarray .int, 2) := by decide +kernel
theorem dL_init_17 : decode mL_init.2.1 17 = .ok (.putfield 15, 3) := by decide +kernel
theorem dL_init_20 : decode mL_init.2.1 20 = .ok (.aload_n 0, 1) := by decide +kernel
theorem dL_init_21 : decode mL_init.2.1 21 = .ok (.bipush 8, 2) := by decide +kernel
theorem dL_init_23 : decode mL_init.2.1 23 = .ok (.newarray .boolean, 2) := by decide +kernel
theorem dL_init_25 : decode mL_init.2.1 25 = .ok (.putfield 18, 3) := by decide +kernel
theorem dL_init_28 : decode mL_init.2.1 28 = .ok (.return_, 1) := by decide +kernel
theorem dL_isSo_0 : decode mL_isSo.2.1 0 = .ok (.iconst 0, 1) := by decide +kernel
theorem dL_isSo_1 : decode mL_isSo.2.1 1 = .ok (.istore_n 2, 1) := by decide +kernel
theorem dL_isSo_2 : decode mL_isSo.2.1 2 = .ok (.iload_n 2, 1) := by decide +kernel
theorem dL_isSo_3 : decode mL_isSo.2.1 3 = .ok (.aload_n 0, 1) := by decide +kernel
theorem dL_isSo_4 : decode mL_isSo.2.1 4 = .ok (.getfield 22, 3) := by decide +kernel
theorem dL_isSo_7 : decode mL_isSo.2.1 7 = .ok (.if_icmp .ge 36, 3) := by decide +kernel
theorem dL_isSo_10 : decode mL_isSo.2.1 10 = .ok (.aload_n 1, 1) := by decide +kernel
theorem dL_isSo_11 : decode mL_isSo.2.1 11 = .ok (.aload_n 0, 1) := by decide +kernel
theorem dL_isSo_12 : decode mL_isSo.2.1 12 = .ok (.getfield 9, 3) := by decide +kernel
theorem dL_isSo_15 : decode mL_isSo.2.1 15 = .ok (.iload_n 2, 1) := by decide +kernel
theorem dL_isSo_16 : decode mL_isSo.2.1 16 = .ok (.iaload, 1) := by decide +kernel
theorem dL_isSo_17 : decode mL_isSo.2.1 17 = .ok (.aload_n 0, 1) := by decide +kernel
theorem dL_isSo_18 : decode mL_isSo.2.1 18 = .ok (.getfield 15, 3) := by decide +kernel
theorem dL_isSo_21 : decode mL_isSo.2.1 21 = .ok (.iload_n 2, 1) := by decide +kernel
theorem dL_isSo_22 : decode mL_isSo.2.1 22 = .ok (.iaload, 1) := by decide +kernel
theorem dL_isSo_23 : decode mL_isSo.2.1 23 = .ok (.invokevirtual 26, 3) := by decide +kernel
theorem dL_isSo_26 : decode mL_isSo.2.1 26 = .ok (.aload_n 0, 1) := by decide +kernel
theorem dL_isSo_27 : decode mL_isSo.2.1 27 = .ok (.getfield 18, 3) := by decide +kernel
theorem dL_isSo_30 : decode mL_isSo.2.1 30 = .ok (.iload_n 2, 1) := by decide +kernel
theorem dL_isSo_31 : decode mL_isSo.2.1 31 = .ok (.baload, 1) := by decide +kernel
theorem dL_isSo_32 : decode mL_isSo.2.1 32 = .ok (.if_icmp .eq 5, 3) := by decide +kernel
theorem dL_isSo_35 : decode mL_isSo.2.1 35 = .ok (.iconst 0, 1) := by decide +kernel
theorem dL_isSo_36 : decode mL_isSo.2.1 36 = .ok (.ireturn, 1) := by decide +kernel
theorem dL_isSo_37 : decode mL_isSo.2.1 37 = .ok (.iinc 2 1, 3) := by decide +kernel
theorem dL_isSo_40 : decode mL_isSo.2.1 40 = .ok (.goto (-38), 3) := by decide +kernel
theorem dL_isSo_43 : decode mL_isSo.2.1 43 = .ok (.iconst 1, 1) := by decide +kernel
theorem dL_isSo_44 : decode mL_isSo.2.1 44 = .ok (.ireturn, 1) := by decide +kernel
theorem dO_init_0 : decode mO_init.2.1 0 = .ok (.aload_n 0, 1) := by decide +kernel
theorem dO_init_1 : decode mO_init.2.1 1 = .ok (.invokespecial 3, 3) := by decide +kernel
theorem dO_init_4 : decode mO_init.2.1 4 = .ok (.return_, 1) := by decide +kernel
theorem dO_live_0 : decode mO_live.2.1 0 = .ok (.aload_n 0, 1) := by decide +kernel
theorem dO_live_1 : decode mO_live.2.1 1 = .ok (.aload_n 1, 1) := by decide +kernel
theorem dO_live_2 : decode mO_live.2.1 2 = .ok (.getfield 9, 3) := by decide +kernel
theorem dO_live_5 : decode mO_live.2.1 5 = .ok (.putfield 15, 3) := by decide +kernel
theorem dO_live_8 : decode mO_live.2.1 8 = .ok (.aload_n 0, 1) := by decide +kernel
theorem dO_live_9 : decode mO_live.2.1 9 = .ok (.bipush (-9), 2) := by decide +kernel
theorem dO_live_11 : decode mO_live.2.1 11 = .ok (.putfield 18, 3) := by decide +kernel
theorem dO_live_14 : decode mO_live.2.1 14 = .ok (.aload_n 0, 1) := by decide +kernel
theorem dO_live_15 : decode mO_live.2.1 15 = .ok (.bipush (-9), 2) := by decide +kernel
theorem dO_live_17 : decode mO_live.2.1 17 = .ok (.putfield 21, 3) := by decide +kernel
theorem dO_live_20 : decode mO_live.2.1 20 = .ok (.aload_n 0, 1) := by decide +kernel
theorem dO_live_21 : decode mO_live.2.1 21 = .ok (.bipush 12, 2) := by decide +kernel
theorem dO_live_23 : decode mO_live.2.1 23 = .ok (.putfield 24, 3) := by decide +kernel
theorem dO_live_26 : decode mO_live.2.1 26 = .ok (.aload_n 0, 1) := by decide +kernel
theorem dO_live_27 : decode mO_live.2.1 27 = .ok (.iconst 0, 1) := by decide +kernel
theorem dO_live_28 : decode mO_live.2.1 28 = .ok (.putfield 27, 3) := by decide +kernel
theorem dO_live_31 : decode mO_live.2.1 31 = .ok (.iconst 0, 1) := by decide +kernel
theorem dO_live_32 : decode mO_live.2.1 32 = .ok (.istore 6, 2) := by decide +kernel
theorem dO_live_34 : decode mO_live.2.1 34 = .ok (.iload 6, 2) := by decide +kernel
theorem dO_live_36 : decode mO_live.2.1 36 = .ok (.iload 4, 2) := by decide +kernel
theorem dO_live_38 : decode mO_live.2.1 38 = .ok (.if_icmp .ge 86, 3) := by decide +kernel
theorem dO_live_41 : decode mO_live.2.1 41 = .ok (.aload_n 0, 1) := by decide +kernel
theorem dO_live_42 : decode mO_live.2.1 42 = .ok (.getfield 18, 3) := by decide +kernel
theorem dO_live_45 : decode mO_live.2.1 45 = .ok (.bipush (-9), 2) := by decide +kernel
theorem dO_live_47 : decode mO_live.2.1 47 = .ok (.if_icmp .ne 77, 3) := by decide +kernel
theorem dO_live_50 : decode mO_live.2.1 50 = .ok (.aload_n 2, 1) := by decide +kernel
theorem dO_live_51 : decode mO_live.2.1 51 = .ok (.iload_n 3, 1) := by decide +kernel
theorem dO_live_52 : decode mO_live.2.1 52 = .ok (.iconst 2, 1) := by decide +kernel
theorem dO_live_53 : decode mO_live.2.1 53 = .ok (.iload 6, 2) := by decide +kernel
theorem dO_live_55 : decode mO_live.2.1 55 = .ok (.imul, 1) := by decide +kernel
theorem dO_live_56 : decode mO_live.2.1 56 = .ok (.iadd, 1) := by decide +kernel
theorem dO_live_57 : decode mO_live.2.1 57 = .ok (.iaload, 1) := by decide +kernel
theorem dO_live_58 : decode mO_live.2.1 58 = .ok (.istore 7, 2) := by decide +kernel
theorem dO_live_60 : decode mO_live.2.1 60 = .ok (.aload_n 2, 1) := by decide +kernel
theorem dO_live_61 : decode mO_live.2.1 61 = .ok (.iload_n 3, 1) := by decide +kernel
theorem dO_live_62 : decode mO_live.2.1 62 = .ok (.iconst 2, 1) := by decide +kernel
theorem dO_live_63 : decode mO_live.2.1 63 = .ok (.iload 6, 2) := by decide +kernel
theorem dO_live_65 : decode mO_live.2.1 65 = .ok (.imul, 1) := by decide +kernel
theorem dO_live_66 : decode mO_live.2.1 66 = .ok (.iadd, 1) := by decide +kernel
theorem dO_live_67 : decode mO_live.2.1 67 = .ok (.iconst 1, 1) := by decide +kernel
theorem dO_live_68 : decode mO_live.2.1 68 = .ok (.iadd, 1) := by decide +kernel
theorem dO_live_69 : decode mO_live.2.1 69 = .ok (.iaload, 1) := by decide +kernel
theorem dO_live_70 : decode mO_live.2.1 70 = .ok (.istore 8, 2) := by decide +kernel
theorem dO_live_72 : decode mO_live.2.1 72 = .ok (.aload_n 1, 1) := by decide +kernel
theorem dO_live_73 : decode mO_live.2.1 73 = .ok (.getfield 30, 3) := by decide +kernel
theorem dO_live_76 : decode mO_live.2.1 76 = .ok (.iload 8, 2) := by decide +kernel
theorem dO_live_78 : decode mO_live.2.1 78 = .ok (.iaload, 1) := by decide +kernel
theorem dO_live_79 : decode mO_live.2.1 79 = .ok (.aload_n 0, 1) := by decide +kernel
theorem dO_live_80 : decode mO_live.2.1 80 = .ok (.getfield 24, 3) := by decide +kernel
theorem dO_live_83 : decode mO_live.2.1 83 = .ok (.if_icmp .le 12, 3) := by decide +kernel
theorem dO_live_86 : decode mO_live.2.1 86 = .ok (.aload_n 0, 1) := by decide +kernel
theorem dO_live_87 : decode mO_live.2.1 87 = .ok (.iload 6, 2) := by decide +kernel
theorem dO_live_89 : decode mO_live.2.1 89 = .ok (.putfield 18, 3) := by decide +kernel
theorem dO_live_92 : decode mO_live.2.1 92 = .ok (.goto 26, 3) := by decide +kernel
theorem dO_live_95 : decode mO_live.2.1 95 = .ok (.aload_n 0, 1) := by decide +kernel
theorem dO_live_96 : decode mO_live.2.1 96 = .ok (.aload_n 1, 1) := by decide +kernel
theorem dO_live_97 : decode mO_live.2.1 97 = .ok (.iload 6, 2) := by decide +kernel
theorem dO_live_99 : decode mO_live.2.1 99 = .ok (.iload 7, 2) := by decide +kernel
theorem dO_live_101 : decode mO_live.2.1 101 = .ok (.iload 8, 2) := by decide +kernel
theorem dO_live_103 : decode mO_live.2.1 103 = .ok (.iload 7, 2) := by decide +kernel
theorem dO_live_105 : decode mO_live.2.1 105 = .ok (.iload 5, 2) := by decide +kernel
theorem dO_live_107 : decode mO_live.2.1 107 = .ok (.if_icmp .ne 7, 3) := by decide +kernel
theorem dO_live_110 : decode mO_live.2.1 110 = .ok (.iconst 1, 1) := by decide +kernel
theorem dO_live_111 : decode mO_live.2.1 111 = .ok (.goto 4, 3) := by decide +kernel
theorem dO_live_114 : decode mO_live.2.1 114 = .ok (.iconst 0, 1) := by decide +kernel
theorem dO_live_115 : decode mO_live.2.1 115 = .ok (.invokevirtual 34, 3) := by decide +kernel
theorem dO_live_118 : decode mO_live.2.1 118 = .ok (.iinc 6 1, 3) := by decide +kernel
theorem dO_live_121 : decode mO_live.2.1 121 = .ok (.goto (-87), 3) := by decide +kernel
theorem dO_live_124 : decode mO_live.2.1 124 = .ok (.return_, 1) := by decide +kernel
theorem dO_pay_0 : decode mO_pay.2.1 0 = .ok (.aload_n 0, 1) := by decide +kernel
theorem dO_pay_1 : decode mO_pay.2.1 1 = .ok (.dup, 1) := by decide +kernel
theorem dO_pay_2 : decode mO_pay.2.1 2 = .ok (.getfield 24, 3) := by decide +kernel
theorem dO_pay_5 : decode mO_pay.2.1 5 = .ok (.aload_n 1, 1) := by decide +kernel
theorem dO_pay_6 : decode mO_pay.2.1 6 = .ok (.getfield 30, 3) := by decide +kernel
theorem dO_pay_9 : decode mO_pay.2.1 9 = .ok (.iload 4, 2) := by decide +kernel
theorem dO_pay_11 : decode mO_pay.2.1 11 = .ok (.iaload, 1) := by decide +kernel
theorem dO_pay_12 : decode mO_pay.2.1 12 = .ok (.isub, 1) := by decide +kernel
theorem dO_pay_13 : decode mO_pay.2.1 13 = .ok (.putfield 24, 3) := by decide +kernel
theorem dO_pay_16 : decode mO_pay.2.1 16 = .ok (.aload_n 0, 1) := by decide +kernel
theorem dO_pay_17 : decode mO_pay.2.1 17 = .ok (.dup, 1) := by decide +kernel
theorem dO_pay_18 : decode mO_pay.2.1 18 = .ok (.getfield 27, 3) := by decide +kernel
theorem dO_pay_21 : decode mO_pay.2.1 21 = .ok (.aload_n 1, 1) := by decide +kernel
theorem dO_pay_22 : decode mO_pay.2.1 22 = .ok (.iload_n 3, 1) := by decide +kernel
theorem dO_pay_23 : decode mO_pay.2.1 23 = .ok (.iload 4, 2) := by decide +kernel
theorem dO_pay_25 : decode mO_pay.2.1 25 = .ok (.invokevirtual 38, 3) := by decide +kernel
theorem dO_pay_28 : decode mO_pay.2.1 28 = .ok (.iadd, 1) := by decide +kernel
theorem dO_pay_29 : decode mO_pay.2.1 29 = .ok (.putfield 27, 3) := by decide +kernel
theorem dO_pay_32 : decode mO_pay.2.1 32 = .ok (.iload 5, 2) := by decide +kernel
theorem dO_pay_34 : decode mO_pay.2.1 34 = .ok (.ifCond .eq 42, 3) := by decide +kernel
theorem dO_pay_37 : decode mO_pay.2.1 37 = .ok (.aload_n 0, 1) := by decide +kernel
theorem dO_pay_38 : decode mO_pay.2.1 38 = .ok (.getfield 15, 3) := by decide +kernel
theorem dO_pay_41 : decode mO_pay.2.1 41 = .ok (.ifCond .le 35, 3) := by decide +kernel
theorem dO_pay_44 : decode mO_pay.2.1 44 = .ok (.aload_n 1, 1) := by decide +kernel
theorem dO_pay_45 : decode mO_pay.2.1 45 = .ok (.iload_n 3, 1) := by decide +kernel
theorem dO_pay_46 : decode mO_pay.2.1 46 = .ok (.iload 4, 2) := by decide +kernel
theorem dO_pay_48 : decode mO_pay.2.1 48 = .ok (.invokevirtual 41, 3) := by decide +kernel
theorem dO_pay_51 : decode mO_pay.2.1 51 = .ok (.ifCond .eq 25, 3) := by decide +kernel
theorem dO_pay_54 : decode mO_pay.2.1 54 = .ok (.aload_n 0, 1) := by decide +kernel
theorem dO_pay_55 : decode mO_pay.2.1 55 = .ok (.dup, 1) := by decide +kernel
theorem dO_pay_56 : decode mO_pay.2.1 56 = .ok (.getfield 15, 3) := by decide +kernel
theorem dO_pay_59 : decode mO_pay.2.1 59 = .ok (.iconst 1, 1) := by decide +kernel
theorem dO_pay_60 : decode mO_pay.2.1 60 = .ok (.isub, 1) := by decide +kernel
theorem dO_pay_61 : decode mO_pay.2.1 61 = .ok (.putfield 15, 3) := by decide +kernel
theorem dO_pay_64 : decode mO_pay.2.1 64 = .ok (.aload_n 0, 1) := by decide +kernel
theorem dO_pay_65 : decode mO_pay.2.1 65 = .ok (.getfield 15, 3) := by decide +kernel
theorem dO_pay_68 : decode mO_pay.2.1 68 = .ok (.ifCond .ne 8, 3) := by decide +kernel
theorem dO_pay_71 : decode mO_pay.2.1 71 = .ok (.aload_n 0, 1) := by decide +kernel
theorem dO_pay_72 : decode mO_pay.2.1 72 = .ok (.iload_n 2, 1) := by decide +kernel
theorem dO_pay_73 : decode mO_pay.2.1 73 = .ok (.putfield 21, 3) := by decide +kernel
theorem dO_pay_76 : decode mO_pay.2.1 76 = .ok (.return_, 1) := by decide +kernel
theorem dP_choose_0 : decode mP_choose.2.1 0 = .ok (.bipush 12, 2) := by decide +kernel
theorem dP_choose_2 : decode mP_choose.2.1 2 = .ok (.istore_n 2, 1) := by decide +kernel
theorem dP_choose_3 : decode mP_choose.2.1 3 = .ok (.aload_n 0, 1) := by decide +kernel
theorem dP_choose_4 : decode mP_choose.2.1 4 = .ok (.iconst 0, 1) := by decide +kernel
theorem dP_choose_5 : decode mP_choose.2.1 5 = .ok (.putfield 58, 3) := by decide +kernel
theorem dP_choose_8 : decode mP_choose.2.1 8 = .ok (.iconst 0, 1) := by decide +kernel
theorem dP_choose_9 : decode mP_choose.2.1 9 = .ok (.istore_n 3, 1) := by decide +kernel
theorem dP_choose_10 : decode mP_choose.2.1 10 = .ok (.iload_n 3, 1) := by decide +kernel
theorem dP_choose_11 : decode mP_choose.2.1 11 = .ok (.aload_n 1, 1) := by decide +kernel
theorem dP_choose_12 : decode mP_choose.2.1 12 = .ok (.getfield 20, 3) := by decide +kernel
theorem dP_choose_15 : decode mP_choose.2.1 15 = .ok (.if_icmp .ge 56, 3) := by decide +kernel
theorem dP_choose_18 : decode mP_choose.2.1 18 = .ok (.aload_n 0, 1) := by decide +kernel
theorem dP_choose_19 : decode mP_choose.2.1 19 = .ok (.aload_n 1, 1) := by decide +kernel
theorem dP_choose_20 : decode mP_choose.2.1 20 = .ok (.iload_n 3, 1) := by decide +kernel
theorem dP_choose_21 : decode mP_choose.2.1 21 = .ok (.iload_n 2, 1) := by decide +kernel
theorem dP_choose_22 : decode mP_choose.2.1 22 = .ok (.invokevirtual 61, 3) := by decide +kernel
theorem dP_choose_25 : decode mP_choose.2.1 25 = .ok (.istore 4, 2) := by decide +kernel
theorem dP_choose_27 : decode mP_choose.2.1 27 = .ok (.aload_n 0, 1) := by decide +kernel
theorem dP_choose_28 : decode mP_choose.2.1 28 = .ok (.getfield 16, 3) := by decide +kernel
theorem dP_choose_31 : decode mP_choose.2.1 31 = .ok (.iload_n 3, 1) := by decide +kernel
theorem dP_choose_32 : decode mP_choose.2.1 32 = .ok (.iload 4, 2) := by decide +kernel
theorem dP_choose_34 : decode mP_choose.2.1 34 = .ok (.iastore, 1) := by decide +kernel
theorem dP_choose_35 : decode mP_choose.2.1 35 = .ok (.iload_n 2, 1) := by decide +kernel
theorem dP_choose_36 : decode mP_choose.2.1 36 = .ok (.aload_n 1, 1) := by decide +kernel
theorem dP_choose_37 : decode mP_choose.2.1 37 = .ok (.getfield 48, 3) := by decide +kernel
theorem dP_choose_40 : decode mP_choose.2.1 40 = .ok (.iload 4, 2) := by decide +kernel
theorem dP_choose_42 : decode mP_choose.2.1 42 = .ok (.iaload, 1) := by decide +kernel
theorem dP_choose_43 : decode mP_choose.2.1 43 = .ok (.isub, 1) := by decide +kernel
theorem dP_choose_44 : decode mP_choose.2.1 44 = .ok (.istore_n 2, 1) := by decide +kernel
theorem dP_choose_45 : decode mP_choose.2.1 45 = .ok (.aload_n 1, 1) := by decide +kernel
theorem dP_choose_46 : decode mP_choose.2.1 46 = .ok (.iload_n 3, 1) := by decide +kernel
theorem dP_choose_47 : decode mP_choose.2.1 47 = .ok (.iload 4, 2) := by decide +kernel
theorem dP_choose_49 : decode mP_choose.2.1 49 = .ok (.invokevirtual 51, 3) := by decide +kernel
theorem dP_choose_52 : decode mP_choose.2.1 52 = .ok (.ifCond .eq 13, 3) := by decide +kernel
theorem dP_choose_55 : decode mP_choose.2.1 55 = .ok (.aload_n 0, 1) := by decide +kernel
theorem dP_choose_56 : decode mP_choose.2.1 56 = .ok (.dup, 1) := by decide +kernel
theorem dP_choose_57 : decode mP_choose.2.1 57 = .ok (.getfield 58, 3) := by decide +kernel
theorem dP_choose_60 : decode mP_choose.2.1 60 = .ok (.iconst 1, 1) := by decide +kernel
theorem dP_choose_61 : decode mP_choose.2.1 61 = .ok (.iadd, 1) := by decide +kernel
theorem dP_choose_62 : decode mP_choose.2.1 62 = .ok (.putfield 58, 3) := by decide +kernel
theorem dP_choose_65 : decode mP_choose.2.1 65 = .ok (.iinc 3 1, 3) := by decide +kernel
theorem dP_choose_68 : decode mP_choose.2.1 68 = .ok (.goto (-58), 3) := by decide +kernel
theorem dP_choose_71 : decode mP_choose.2.1 71 = .ok (.return_, 1) := by decide +kernel
theorem dP_firstBest_0 : decode mP_firstBest.2.1 0 = .ok (.iconst 0, 1) := by decide +kernel
theorem dP_firstBest_1 : decode mP_firstBest.2.1 1 = .ok (.istore 4, 2) := by decide +kernel
theorem dP_firstBest_3 : decode mP_firstBest.2.1 3 = .ok (.iload 4, 2) := by decide +kernel
theorem dP_firstBest_5 : decode mP_firstBest.2.1 5 = .ok (.aload_n 1, 1) := by decide +kernel
theorem dP_firstBest_6 : decode mP_firstBest.2.1 6 = .ok (.getfield 35, 3) := by decide +kernel
theorem dP_firstBest_9 : decode mP_firstBest.2.1 9 = .ok (.if_icmp .ge 32, 3) := by decide +kernel
theorem dP_firstBest_12 : decode mP_firstBest.2.1 12 = .ok (.aload_n 0, 1) := by decide +kernel
theorem dP_firstBest_13 : decode mP_firstBest.2.1 13 = .ok (.aload_n 1, 1) := by decide +kernel
theorem dP_firstBest_14 : decode mP_firstBest.2.1 14 = .ok (.iload_n 2, 1) := by decide +kernel
theorem dP_firstBest_15 : decode mP_firstBest.2.1 15 = .ok (.iload 4, 2) := by decide +kernel
theorem dP_firstBest_17 : decode mP_firstBest.2.1 17 = .ok (.iload_n 3, 1) := by decide +kernel
theorem dP_firstBest_18 : decode mP_firstBest.2.1 18 = .ok (.invokevirtual 38, 3) := by decide +kernel
theorem dP_firstBest_21 : decode mP_firstBest.2.1 21 = .ok (.aload_n 0, 1) := by decide +kernel
theorem dP_firstBest_22 : decode mP_firstBest.2.1 22 = .ok (.getfield 11, 3) := by decide +kernel
theorem dP_firstBest_25 : decode mP_firstBest.2.1 25 = .ok (.iload_n 2, 1) := by decide +kernel
theorem dP_firstBest_26 : decode mP_firstBest.2.1 26 = .ok (.aaload, 1) := by decide +kernel
theorem dP_firstBest_27 : decode mP_firstBest.2.1 27 = .ok (.iload_n 3, 1) := by decide +kernel
theorem dP_firstBest_28 : decode mP_firstBest.2.1 28 = .ok (.iaload, 1) := by decide +kernel
theorem dP_firstBest_29 : decode mP_firstBest.2.1 29 = .ok (.if_icmp .ne 6, 3) := by decide +kernel
theorem dP_firstBest_32 : decode mP_firstBest.2.1 32 = .ok (.iload 4, 2) := by decide +kernel
theorem dP_firstBest_34 : decode mP_firstBest.2.1 34 = .ok (.ireturn, 1) := by decide +kernel
theorem dP_firstBest_35 : decode mP_firstBest.2.1 35 = .ok (.iinc 4 1, 3) := by decide +kernel
theorem dP_firstBest_38 : decode mP_firstBest.2.1 38 = .ok (.goto (-35), 3) := by decide +kernel
theorem dP_firstBest_41 : decode mP_firstBest.2.1 41 = .ok (.iconst 0, 1) := by decide +kernel
theorem dP_firstBest_42 : decode mP_firstBest.2.1 42 = .ok (.ireturn, 1) := by decide +kernel
theorem dP_init_0 : decode mP_init.2.1 0 = .ok (.aload_n 0, 1) := by decide +kernel
theorem dP_init_1 : decode mP_init.2.1 1 = .ok (.invokespecial 3, 3) := by decide +kernel
theorem dP_init_4 : decode mP_init.2.1 4 = .ok (.aload_n 0, 1) := by decide +kernel
theorem dP_init_5 : decode mP_init.2.1 5 = .ok (.bipush 7, 2) := by decide +kernel
theorem dP_init_7 : decode mP_init.2.1 7 = .ok (.bipush 13, 2) := by decide +kernel
theorem dP_init_9 : decode mP_init.2.1 9 = .ok (.multianewarray 9 2, 4) := by decide +kernel
theorem dP_init_13 : decode mP_init.2.1 13 = .ok (.putfield 11, 3) := by decide +kernel
theorem dP_init_16 : decode mP_init.2.1 16 = .ok (.aload_n 0, 1) := by decide +kernel
theorem dP_init_17 : decode mP_init.2.1 17 = .ok (.bipush 6, 2) := by decide +kernel
theorem dP_init_19 : decode mP_init.2.1 19 = .ok (.newarray .int, 2) := by decide +kernel
theorem dP_init_21 : decode mP_init.2.1 21 = .ok (.putfield 16, 3) := by decide +kernel
theorem dP_init_24 : decode mP_init.2.1 24 = .ok (.return_, 1) := by decide +kernel
theorem dP_isMade_0 : decode mP_isMade.2.1 0 = .ok (.iconst 0, 1) := by decide +kernel
theorem dP_isMade_1 : decode mP_isMade.2.1 1 = .ok (.istore_n 2, 1) := by decide +kernel
theorem dP_isMade_2 : decode mP_isMade.2.1 2 = .ok (.iload_n 2, 1) := by decide +kernel
theorem dP_isMade_3 : decode mP_isMade.2.1 3 = .ok (.bipush 12, 2) := by decide +kernel
theorem dP_isMade_5 : decode mP_isMade.2.1 5 = .ok (.if_icmp .gt 21, 3) := by decide +kernel
theorem dP_isMade_8 : decode mP_isMade.2.1 8 = .ok (.aload_n 0, 1) := by decide +kernel
theorem dP_isMade_9 : decode mP_isMade.2.1 9 = .ok (.getfield 11, 3) := by decide +kernel
theorem dP_isMade_12 : decode mP_isMade.2.1 12 = .ok (.aload_n 1, 1) := by decide +kernel
theorem dP_isMade_13 : decode mP_isMade.2.1 13 = .ok (.getfield 20, 3) := by decide +kernel
theorem dP_isMade_16 : decode mP_isMade.2.1 16 = .ok (.aaload, 1) := by decide +kernel
theorem dP_isMade_17 : decode mP_isMade.2.1 17 = .ok (.iload_n 2, 1) := by decide +kernel
theorem dP_isMade_18 : decode mP_isMade.2.1 18 = .ok (.iconst 0, 1) := by decide +kernel
theorem dP_isMade_19 : decode mP_isMade.2.1 19 = .ok (.iastore, 1) := by decide +kernel
theorem dP_isMade_20 : decode mP_isMade.2.1 20 = .ok (.iinc 2 1, 3) := by decide +kernel
theorem dP_isMade_23 : decode mP_isMade.2.1 23 = .ok (.goto (-21), 3) := by decide +kernel
theorem dP_isMade_26 : decode mP_isMade.2.1 26 = .ok (.aload_n 1, 1) := by decide +kernel
theorem dP_isMade_27 : decode mP_isMade.2.1 27 = .ok (.getfield 20, 3) := by decide +kernel
theorem dP_isMade_30 : decode mP_isMade.2.1 30 = .ok (.iconst 1, 1) := by decide +kernel
theorem dP_isMade_31 : decode mP_isMade.2.1 31 = .ok (.isub, 1) := by decide +kernel
theorem dP_isMade_32 : decode mP_isMade.2.1 32 = .ok (.istore_n 2, 1) := by decide +kernel
theorem dP_isMade_33 : decode mP_isMade.2.1 33 = .ok (.iload_n 2, 1) := by decide +kernel
theorem dP_isMade_34 : decode mP_isMade.2.1 34 = .ok (.ifCond .lt 38, 3) := by decide +kernel
theorem dP_isMade_37 : decode mP_isMade.2.1 37 = .ok (.iconst 0, 1) := by decide +kernel
theorem dP_isMade_38 : decode mP_isMade.2.1 38 = .ok (.istore_n 3, 1) := by decide +kernel
theorem dP_isMade_39 : decode mP_isMade.2.1 39 = .ok (.iload_n 3, 1) := by decide +kernel
theorem dP_isMade_40 : decode mP_isMade.2.1 40 = .ok (.bipush 12, 2) := by decide +kernel
theorem dP_isMade_42 : decode mP_isMade.2.1 42 = .ok (.if_icmp .gt 24, 3) := by decide +kernel
theorem dP_isMade_45 : decode mP_isMade.2.1 45 = .ok (.aload_n 0, 1) := by decide +kernel
theorem dP_isMade_46 : decode mP_isMade.2.1 46 = .ok (.getfield 11, 3) := by decide +kernel
theorem dP_isMade_49 : decode mP_isMade.2.1 49 = .ok (.iload_n 2, 1) := by decide +kernel
theorem dP_isMade_50 : decode mP_isMade.2.1 50 = .ok (.aaload, 1) := by decide +kernel
theorem dP_isMade_51 : decode mP_isMade.2.1 51 = .ok (.iload_n 3, 1) := by decide +kernel
theorem dP_isMade_52 : decode mP_isMade.2.1 52 = .ok (.aload_n 0, 1) := by decide +kernel
theorem dP_isMade_53 : decode mP_isMade.2.1 53 = .ok (.aload_n 1, 1) := by decide +kernel
theorem dP_isMade_54 : decode mP_isMade.2.1 54 = .ok (.iload_n 2, 1) := by decide +kernel
theorem dP_isMade_55 : decode mP_isMade.2.1 55 = .ok (.iload_n 3, 1) := by decide +kernel
theorem dP_isMade_56 : decode mP_isMade.2.1 56 = .ok (.invokevirtual 26, 3) := by decide +kernel
theorem dP_isMade_59 : decode mP_isMade.2.1 59 = .ok (.iastore, 1) := by decide +kernel
theorem dP_isMade_60 : decode mP_isMade.2.1 60 = .ok (.iinc 3 1, 3) := by decide +kernel
theorem dP_isMade_63 : decode mP_isMade.2.1 63 = .ok (.goto (-24), 3) := by decide +kernel
theorem dP_isMade_66 : decode mP_isMade.2.1 66 = .ok (.iinc 2 (-1), 3) := by decide +kernel
theorem dP_isMade_69 : decode mP_isMade.2.1 69 = .ok (.goto (-36), 3) := by decide +kernel
theorem dP_isMade_72 : decode mP_isMade.2.1 72 = .ok (.aload_n 0, 1) := by decide +kernel
theorem dP_isMade_73 : decode mP_isMade.2.1 73 = .ok (.getfield 11, 3) := by decide +kernel
theorem dP_isMade_76 : decode mP_isMade.2.1 76 = .ok (.iconst 0, 1) := by decide +kernel
theorem dP_isMade_77 : decode mP_isMade.2.1 77 = .ok (.aaload, 1) := by decide +kernel
theorem dP_isMade_78 : decode mP_isMade.2.1 78 = .ok (.bipush 12, 2) := by decide +kernel
theorem dP_isMade_80 : decode mP_isMade.2.1 80 = .ok (.iaload, 1) := by decide +kernel
theorem dP_isMade_81 : decode mP_isMade.2.1 81 = .ok (.ldc 30, 2) := by decide +kernel
theorem dP_isMade_83 : decode mP_isMade.2.1 83 = .ok (.if_icmp .ne 5, 3) := by decide +kernel
theorem dP_isMade_86 : decode mP_isMade.2.1 86 = .ok (.iconst 0, 1) := by decide +kernel
theorem dP_isMade_87 : decode mP_isMade.2.1 87 = .ok (.ireturn, 1) := by decide +kernel
theorem dP_isMade_88 : decode mP_isMade.2.1 88 = .ok (.aload_n 0, 1) := by decide +kernel
theorem dP_isMade_89 : decode mP_isMade.2.1 89 = .ok (.aload_n 1, 1) := by decide +kernel
theorem dP_isMade_90 : decode mP_isMade.2.1 90 = .ok (.invokevirtual 31, 3) := by decide +kernel
theorem dP_isMade_93 : decode mP_isMade.2.1 93 = .ok (.iconst 1, 1) := by decide +kernel
theorem dP_isMade_94 : decode mP_isMade.2.1 94 = .ok (.ireturn, 1) := by decide +kernel
theorem dP_leastOf_0 : decode mP_leastOf.2.1 0 = .ok (.ldc 30, 2) := by decide +kernel
theorem dP_leastOf_2 : decode mP_leastOf.2.1 2 = .ok (.istore 4, 2) := by decide +kernel
theorem dP_leastOf_4 : decode mP_leastOf.2.1 4 = .ok (.iconst 0, 1) := by decide +kernel
theorem dP_leastOf_5 : decode mP_leastOf.2.1 5 = .ok (.istore 5, 2) := by decide +kernel
theorem dP_leastOf_7 : decode mP_leastOf.2.1 7 = .ok (.iload 5, 2) := by decide +kernel
theorem dP_leastOf_9 : decode mP_leastOf.2.1 9 = .ok (.aload_n 1, 1) := by decide +kernel
theorem dP_leastOf_10 : decode mP_leastOf.2.1 10 = .ok (.getfield 35, 3) := by decide +kernel
theorem dP_leastOf_13 : decode mP_leastOf.2.1 13 = .ok (.if_icmp .ge 25, 3) := by decide +kernel
theorem dP_leastOf_16 : decode mP_leastOf.2.1 16 = .ok (.iload 4, 2) := by decide +kernel
theorem dP_leastOf_18 : decode mP_leastOf.2.1 18 = .ok (.aload_n 0, 1) := by decide +kernel
theorem dP_leastOf_19 : decode mP_leastOf.2.1 19 = .ok (.aload_n 1, 1) := by decide +kernel
theorem dP_leastOf_20 : decode mP_leastOf.2.1 20 = .ok (.iload_n 2, 1) := by decide +kernel
theorem dP_leastOf_21 : decode mP_leastOf.2.1 21 = .ok (.iload 5, 2) := by decide +kernel
theorem dP_leastOf_23 : decode mP_leastOf.2.1 23 = .ok (.iload_n 3, 1) := by decide +kernel
theorem dP_leastOf_24 : decode mP_leastOf.2.1 24 = .ok (.invokevirtual 38, 3) := by decide +kernel
theorem dP_leastOf_27 : decode mP_leastOf.2.1 27 = .ok (.invokestatic 42, 3) := by decide +kernel
theorem dP_leastOf_30 : decode mP_leastOf.2.1 30 = .ok (.istore 4, 2) := by decide +kernel
theorem dP_leastOf_32 : decode mP_leastOf.2.1 32 = .ok (.iinc 5 1, 3) := by decide +kernel
theorem dP_leastOf_35 : decode mP_leastOf.2.1 35 = .ok (.goto (-28), 3) := by decide +kernel
theorem dP_leastOf_38 : decode mP_leastOf.2.1 38 = .ok (.iload 4, 2) := by decide +kernel
theorem dP_leastOf_40 : decode mP_leastOf.2.1 40 = .ok (.ireturn, 1) := by decide +kernel
theorem dP_weight_0 : decode mP_weight.2.1 0 = .ok (.iload 4, 2) := by decide +kernel
theorem dP_weight_2 : decode mP_weight.2.1 2 = .ok (.aload_n 1, 1) := by decide +kernel
theorem dP_weight_3 : decode mP_weight.2.1 3 = .ok (.getfield 48, 3) := by decide +kernel
theorem dP_weight_6 : decode mP_weight.2.1 6 = .ok (.iload_n 3, 1) := by decide +kernel
theorem dP_weight_7 : decode mP_weight.2.1 7 = .ok (.iaload, 1) := by decide +kernel
theorem dP_weight_8 : decode mP_weight.2.1 8 = .ok (.isub, 1) := by decide +kernel
theorem dP_weight_9 : decode mP_weight.2.1 9 = .ok (.istore 5, 2) := by decide +kernel
theorem dP_weight_11 : decode mP_weight.2.1 11 = .ok (.iload 5, 2) := by decide +kernel
theorem dP_weight_13 : decode mP_weight.2.1 13 = .ok (.ifCond .lt 19, 3) := by decide +kernel
theorem dP_weight_16 : decode mP_weight.2.1 16 = .ok (.aload_n 0, 1) := by decide +kernel
theorem dP_weight_17 : decode mP_weight.2.1 17 = .ok (.getfield 11, 3) := by decide +kernel
theorem dP_weight_20 : decode mP_weight.2.1 20 = .ok (.iload_n 2, 1) := by decide +kernel
theorem dP_weight_21 : decode mP_weight.2.1 21 = .ok (.iconst 1, 1) := by decide +kernel
theorem dP_weight_22 : decode mP_weight.2.1 22 = .ok (.iadd, 1) := by decide +kernel
theorem dP_weight_23 : decode mP_weight.2.1 23 = .ok (.aaload, 1) := by decide +kernel
theorem dP_weight_24 : decode mP_weight.2.1 24 = .ok (.iload 5, 2) := by decide +kernel
theorem dP_weight_26 : decode mP_weight.2.1 26 = .ok (.iaload, 1) := by decide +kernel
theorem dP_weight_27 : decode mP_weight.2.1 27 = .ok (.ldc 30, 2) := by decide +kernel
theorem dP_weight_29 : decode mP_weight.2.1 29 = .ok (.if_icmp .ne 6, 3) := by decide +kernel
theorem dP_weight_32 : decode mP_weight.2.1 32 = .ok (.ldc 30, 2) := by decide +kernel
theorem dP_weight_34 : decode mP_weight.2.1 34 = .ok (.ireturn, 1) := by decide +kernel
theorem dP_weight_35 : decode mP_weight.2.1 35 = .ok (.aload_n 1, 1) := by decide +kernel
theorem dP_weight_36 : decode mP_weight.2.1 36 = .ok (.iload_n 2, 1) := by decide +kernel
theorem dP_weight_37 : decode mP_weight.2.1 37 = .ok (.iload_n 3, 1) := by decide +kernel
theorem dP_weight_38 : decode mP_weight.2.1 38 = .ok (.invokevirtual 51, 3) := by decide +kernel
theorem dP_weight_41 : decode mP_weight.2.1 41 = .ok (.ifCond .eq 9, 3) := by decide +kernel
theorem dP_weight_44 : decode mP_weight.2.1 44 = .ok (.sipush 1000, 3) := by decide +kernel
theorem dP_weight_47 : decode mP_weight.2.1 47 = .ok (.goto 4, 3) := by decide +kernel
theorem dP_weight_50 : decode mP_weight.2.1 50 = .ok (.iconst 0, 1) := by decide +kernel
theorem dP_weight_51 : decode mP_weight.2.1 51 = .ok (.istore 6, 2) := by decide +kernel
theorem dP_weight_53 : decode mP_weight.2.1 53 = .ok (.iload 6, 2) := by decide +kernel
theorem dP_weight_55 : decode mP_weight.2.1 55 = .ok (.aload_n 1, 1) := by decide +kernel
theorem dP_weight_56 : decode mP_weight.2.1 56 = .ok (.iload_n 2, 1) := by decide +kernel
theorem dP_weight_57 : decode mP_weight.2.1 57 = .ok (.iload_n 3, 1) := by decide +kernel
theorem dP_weight_58 : decode mP_weight.2.1 58 = .ok (.invokevirtual 55, 3) := by decide +kernel
theorem dP_weight_61 : decode mP_weight.2.1 61 = .ok (.isub, 1) := by decide +kernel
theorem dP_weight_62 : decode mP_weight.2.1 62 = .ok (.aload_n 0, 1) := by decide +kernel
theorem dP_weight_63 : decode mP_weight.2.1 63 = .ok (.getfield 11, 3) := by decide +kernel
theorem dP_weight_66 : decode mP_weight.2.1 66 = .ok (.iload_n 2, 1) := by decide +kernel
theorem dP_weight_67 : decode mP_weight.2.1 67 = .ok (.iconst 1, 1) := by decide +kernel
theorem dP_weight_68 : decode mP_weight.2.1 68 = .ok (.iadd, 1) := by decide +kernel
theorem dP_weight_69 : decode mP_weight.2.1 69 = .ok (.aaload, 1) := by decide +kernel
theorem dP_weight_70 : decode mP_weight.2.1 70 = .ok (.iload 5, 2) := by decide +kernel
theorem dP_weight_72 : decode mP_weight.2.1 72 = .ok (.iaload, 1) := by decide +kernel
theorem dP_weight_73 : decode mP_weight.2.1 73 = .ok (.iadd, 1) := by decide +kernel
theorem dP_weight_74 : decode mP_weight.2.1 74 = .ok (.ireturn, 1) := by decide +kernel
theorem dS_faultAsRow_0 : decode mS_faultAsRow.2.1 0 = .ok (.aload_n 0, 1) := by decide +kernel
theorem dS_faultAsRow_1 : decode mS_faultAsRow.2.1 1 = .ok (.getfield 16, 3) := by decide +kernel
theorem dS_faultAsRow_4 : decode mS_faultAsRow.2.1 4 = .ok (.iload_n 1, 1) := by decide +kernel
theorem dS_faultAsRow_5 : decode mS_faultAsRow.2.1 5 = .ok (.baload, 1) := by decide +kernel
theorem dS_faultAsRow_6 : decode mS_faultAsRow.2.1 6 = .ok (.ifCond .ne 5, 3) := by decide +kernel
theorem dS_faultAsRow_9 : decode mS_faultAsRow.2.1 9 = .ok (.iconst 1, 1) := by decide +kernel
theorem dS_faultAsRow_10 : decode mS_faultAsRow.2.1 10 = .ok (.ireturn, 1) := by decide +kernel
theorem dS_faultAsRow_11 : decode mS_faultAsRow.2.1 11 = .ok (.aload_n 0, 1) := by decide +kernel
theorem dS_faultAsRow_12 : decode mS_faultAsRow.2.1 12 = .ok (.getfield 20, 3) := by decide +kernel
theorem dS_faultAsRow_15 : decode mS_faultAsRow.2.1 15 = .ok (.iload_n 1, 1) := by decide +kernel
theorem dS_faultAsRow_16 : decode mS_faultAsRow.2.1 16 = .ok (.iaload, 1) := by decide +kernel
theorem dS_faultAsRow_17 : decode mS_faultAsRow.2.1 17 = .ok (.iload_n 2, 1) := by decide +kernel
theorem dS_faultAsRow_18 : decode mS_faultAsRow.2.1 18 = .ok (.if_icmp .ne 7, 3) := by decide +kernel
theorem dS_faultAsRow_21 : decode mS_faultAsRow.2.1 21 = .ok (.iconst 0, 1) := by decide +kernel
theorem dS_faultAsRow_22 : decode mS_faultAsRow.2.1 22 = .ok (.goto 4, 3) := by decide +kernel
theorem dS_faultAsRow_25 : decode mS_faultAsRow.2.1 25 = .ok (.iconst 2, 1) := by decide +kernel
theorem dS_faultAsRow_26 : decode mS_faultAsRow.2.1 26 = .ok (.ireturn, 1) := by decide +kernel
theorem dS_init_0 : decode mS_init.2.1 0 = .ok (.aload_n 0, 1) := by decide +kernel
theorem dS_init_1 : decode mS_init.2.1 1 = .ok (.invokespecial 3, 3) := by decide +kernel
theorem dS_init_4 : decode mS_init.2.1 4 = .ok (.aload_n 0, 1) := by decide +kernel
theorem dS_init_5 : decode mS_init.2.1 5 = .ok (.iconst 4, 1) := by decide +kernel
theorem dS_init_6 : decode mS_init.2.1 6 = .ok (.bipush 60, 2) := by decide +kernel
theorem dS_init_8 : decode mS_init.2.1 8 = .ok (.multianewarray 9 2, 4) := by decide +kernel
theorem dS_init_12 : decode mS_init.2.1 12 = .ok (.putfield 11, 3) := by decide +kernel
theorem dS_init_15 : decode mS_init.2.1 15 = .ok (.aload_n 0, 1) := by decide +kernel
theorem dS_init_16 : decode mS_init.2.1 16 = .ok (.iconst 4, 1) := by decide +kernel
theorem dS_init_17 : decode mS_init.2.1 17 = .ok (.newarray .boolean, 2) := by decide +kernel
theorem dS_init_19 : decode mS_init.2.1 19 = .ok (.putfield 16, 3) := by decide +kernel
theorem dS_init_22 : decode mS_init.2.1 22 = .ok (.aload_n 0, 1) := by decide +kernel
theorem dS_init_23 : decode mS_init.2.1 23 = .ok (.iconst 4, 1) := by decide +kernel
theorem dS_init_24 : decode mS_init.2.1 24 = .ok (.newarray .int, 2) := by decide +kernel
theorem dS_init_26 : decode mS_init.2.1 26 = .ok (.putfield 20, 3) := by decide +kernel
theorem dS_init_29 : decode mS_init.2.1 29 = .ok (.aload_n 0, 1) := by decide +kernel
theorem dS_init_30 : decode mS_init.2.1 30 = .ok (.iconst 4, 1) := by decide +kernel
theorem dS_init_31 : decode mS_init.2.1 31 = .ok (.newarray .int, 2) := by decide +kernel
theorem dS_init_33 : decode mS_init.2.1 33 = .ok (.putfield 24, 3) := by decide +kernel
theorem dS_init_36 : decode mS_init.2.1 36 = .ok (.return_, 1) := by decide +kernel
theorem dS_isCell_0 : decode mS_isCell.2.1 0 = .ok (.iload_n 2, 1) := by decide +kernel
theorem dS_isCell_1 : decode mS_isCell.2.1 1 = .ok (.ifCond .lt 17, 3) := by decide +kernel
theorem dS_isCell_4 : decode mS_isCell.2.1 4 = .ok (.iload_n 2, 1) := by decide +kernel
theorem dS_isCell_5 : decode mS_isCell.2.1 5 = .ok (.aload_n 0, 1) := by decide +kernel
theorem dS_isCell_6 : decode mS_isCell.2.1 6 = .ok (.getfield 24, 3) := by decide +kernel
theorem dS_isCell_9 : decode mS_isCell.2.1 9 = .ok (.iload_n 1, 1) := by decide +kernel
theorem dS_isCell_10 : decode mS_isCell.2.1 10 = .ok (.iaload, 1) := by decide +kernel
theorem dS_isCell_11 : decode mS_isCell.2.1 11 = .ok (.if_icmp .ge 7, 3) := by decide +kernel
theorem dS_isCell_14 : decode mS_isCell.2.1 14 = .ok (.iconst 1, 1) := by decide +kernel
theorem dS_isCell_15 : decode mS_isCell.2.1 15 = .ok (.goto 4, 3) := by decide +kernel
theorem dS_isCell_18 : decode mS_isCell.2.1 18 = .ok (.iconst 0, 1) := by decide +kernel
theorem dS_isCell_19 : decode mS_isCell.2.1 19 = .ok (.ireturn, 1) := by decide +kernel
theorem dS_isSheet_0 : decode mS_isSheet.2.1 0 = .ok (.iload_n 1, 1) := by decide +kernel
theorem dS_isSheet_1 : decode mS_isSheet.2.1 1 = .ok (.ifCond .lt 12, 3) := by decide +kernel
theorem dS_isSheet_4 : decode mS_isSheet.2.1 4 = .ok (.iload_n 1, 1) := by decide +kernel
theorem dS_isSheet_5 : decode mS_isSheet.2.1 5 = .ok (.iconst 4, 1) := by decide +kernel
theorem dS_isSheet_6 : decode mS_isSheet.2.1 6 = .ok (.if_icmp .ge 7, 3) := by decide +kernel
theorem dS_isSheet_9 : decode mS_isSheet.2.1 9 = .ok (.iconst 1, 1) := by decide +kernel
theorem dS_isSheet_10 : decode mS_isSheet.2.1 10 = .ok (.goto 4, 3) := by decide +kernel
theorem dS_isSheet_13 : decode mS_isSheet.2.1 13 = .ok (.iconst 0, 1) := by decide +kernel
theorem dS_isSheet_14 : decode mS_isSheet.2.1 14 = .ok (.ireturn, 1) := by decide +kernel
theorem dS_renew_0 : decode mS_renew.2.1 0 = .ok (.aload_n 0, 1) := by decide +kernel
theorem dS_renew_1 : decode mS_renew.2.1 1 = .ok (.getfield 16, 3) := by decide +kernel
theorem dS_renew_4 : decode mS_renew.2.1 4 = .ok (.iload_n 1, 1) := by decide +kernel
theorem dS_renew_5 : decode mS_renew.2.1 5 = .ok (.iconst 1, 1) := by decide +kernel
theorem dS_renew_6 : decode mS_renew.2.1 6 = .ok (.bastore, 1) := by decide +kernel
theorem dS_renew_7 : decode mS_renew.2.1 7 = .ok (.aload_n 0, 1) := by decide +kernel
theorem dS_renew_8 : decode mS_renew.2.1 8 = .ok (.getfield 20, 3) := by decide +kernel
theorem dS_renew_11 : decode mS_renew.2.1 11 = .ok (.iload_n 1, 1) := by decide +kernel
theorem dS_renew_12 : decode mS_renew.2.1 12 = .ok (.iload_n 2, 1) := by decide +kernel
theorem dS_renew_13 : decode mS_renew.2.1 13 = .ok (.iastore, 1) := by decide +kernel
theorem dS_renew_14 : decode mS_renew.2.1 14 = .ok (.aload_n 0, 1) := by decide +kernel
theorem dS_renew_15 : decode mS_renew.2.1 15 = .ok (.getfield 24, 3) := by decide +kernel
theorem dS_renew_18 : decode mS_renew.2.1 18 = .ok (.iload_n 1, 1) := by decide +kernel
theorem dS_renew_19 : decode mS_renew.2.1 19 = .ok (.iload_n 3, 1) := by decide +kernel
theorem dS_renew_20 : decode mS_renew.2.1 20 = .ok (.iastore, 1) := by decide +kernel
theorem dS_renew_21 : decode mS_renew.2.1 21 = .ok (.iconst 0, 1) := by decide +kernel
theorem dS_renew_22 : decode mS_renew.2.1 22 = .ok (.istore 4, 2) := by decide +kernel
theorem dS_renew_24 : decode mS_renew.2.1 24 = .ok (.iload 4, 2) := by decide +kernel
theorem dS_renew_26 : decode mS_renew.2.1 26 = .ok (.iload_n 3, 1) := by decide +kernel
theorem dS_renew_27 : decode mS_renew.2.1 27 = .ok (.if_icmp .ge 19, 3) := by decide +kernel
theorem dS_renew_30 : decode mS_renew.2.1 30 = .ok (.aload_n 0, 1) := by decide +kernel
theorem dS_renew_31 : decode mS_renew.2.1 31 = .ok (.getfield 11, 3) := by decide +kernel
theorem dS_renew_34 : decode mS_renew.2.1 34 = .ok (.iload_n 1, 1) := by decide +kernel
theorem dS_renew_35 : decode mS_renew.2.1 35 = .ok (.aaload, 1) := by decide +kernel
theorem dS_renew_36 : decode mS_renew.2.1 36 = .ok (.iload 4, 2) := by decide +kernel
theorem dS_renew_38 : decode mS_renew.2.1 38 = .ok (.iconst 0, 1) := by decide +kernel
theorem dS_renew_39 : decode mS_renew.2.1 39 = .ok (.iastore, 1) := by decide +kernel
theorem dS_renew_40 : decode mS_renew.2.1 40 = .ok (.iinc 4 1, 3) := by decide +kernel
theorem dS_renew_43 : decode mS_renew.2.1 43 = .ok (.goto (-19), 3) := by decide +kernel
theorem dS_renew_46 : decode mS_renew.2.1 46 = .ok (.return_, 1) := by decide +kernel
theorem dS_spans_0 : decode mS_spans.2.1 0 = .ok (.iload_n 2, 1) := by decide +kernel
theorem dS_spans_1 : decode mS_spans.2.1 1 = .ok (.ifCond .lt 33, 3) := by decide +kernel
theorem dS_spans_4 : decode mS_spans.2.1 4 = .ok (.iload_n 2, 1) := by decide +kernel
theorem dS_spans_5 : decode mS_spans.2.1 5 = .ok (.aload_n 0, 1) := by decide +kernel
theorem dS_spans_6 : decode mS_spans.2.1 6 = .ok (.getfield 24, 3) := by decide +kernel
theorem dS_spans_9 : decode mS_spans.2.1 9 = .ok (.iload_n 1, 1) := by decide +kernel
theorem dS_spans_10 : decode mS_spans.2.1 10 = .ok (.iaload, 1) := by decide +kernel
theorem dS_spans_11 : decode mS_spans.2.1 11 = .ok (.if_icmp .gt 23, 3) := by decide +kernel
theorem dS_spans_14 : decode mS_spans.2.1 14 = .ok (.iload_n 3, 1) := by decide +kernel
theorem dS_spans_15 : decode mS_spans.2.1 15 = .ok (.ifCond .lt 19, 3) := by decide +kernel
theorem dS_spans_18 : decode mS_spans.2.1 18 = .ok (.iload_n 3, 1) := by decide +kernel
theorem dS_spans_19 : decode mS_spans.2.1 19 = .ok (.aload_n 0, 1) := by decide +kernel
theorem dS_spans_20 : decode mS_spans.2.1 20 = .ok (.getfield 24, 3) := by decide +kernel
theorem dS_spans_23 : decode mS_spans.2.1 23 = .ok (.iload_n 1, 1) := by decide +kernel
theorem dS_spans_24 : decode mS_spans.2.1 24 = .ok (.iaload, 1) := by decide +kernel
theorem dS_spans_25 : decode mS_spans.2.1 25 = .ok (.iload_n 2, 1) := by decide +kernel
theorem dS_spans_26 : decode mS_spans.2.1 26 = .ok (.isub, 1) := by decide +kernel
theorem dS_spans_27 : decode mS_spans.2.1 27 = .ok (.if_icmp .gt 7, 3) := by decide +kernel
theorem dS_spans_30 : decode mS_spans.2.1 30 = .ok (.iconst 1, 1) := by decide +kernel
theorem dS_spans_31 : decode mS_spans.2.1 31 = .ok (.goto 4, 3) := by decide +kernel
theorem dS_spans_34 : decode mS_spans.2.1 34 = .ok (.iconst 0, 1) := by decide +kernel
theorem dS_spans_35 : decode mS_spans.2.1 35 = .ok (.ireturn, 1) := by decide +kernel
theorem dT_areDoings_0 : decode mT_areDoings.2.1 0 = .ok (.aload_n 0, 1) := by decide +kernel
theorem dT_areDoings_1 : decode mT_areDoings.2.1 1 = .ok (.iconst 0, 1) := by decide +kernel
theorem dT_areDoings_2 : decode mT_areDoings.2.1 2 = .ok (.putfield 36, 3) := by decide +kernel
theorem dT_areDoings_5 : decode mT_areDoings.2.1 5 = .ok (.aload_n 0, 1) := by decide +kernel
theorem dT_areDoings_6 : decode mT_areDoings.2.1 6 = .ok (.getfield 36, 3) := by decide +kernel
theorem dT_areDoings_9 : decode mT_areDoings.2.1 9 = .ok (.iconst 4, 1) := by decide +kernel
theorem dT_areDoings_10 : decode mT_areDoings.2.1 10 = .ok (.if_icmp .ge 51, 3) := by decide +kernel
theorem dT_areDoings_13 : decode mT_areDoings.2.1 13 = .ok (.aload_n 0, 1) := by decide +kernel
theorem dT_areDoings_14 : decode mT_areDoings.2.1 14 = .ok (.bipush 47, 2) := by decide +kernel
theorem dT_areDoings_16 : decode mT_areDoings.2.1 16 = .ok (.bipush 47, 2) := by decide +kernel
theorem dT_areDoings_18 : decode mT_areDoings.2.1 18 = .ok (.invokevirtual 25, 3) := by decide +kernel
theorem dT_areDoings_21 : decode mT_areDoings.2.1 21 = .ok (.ifCond .eq 40, 3) := by decide +kernel
theorem dT_areDoings_24 : decode mT_areDoings.2.1 24 = .ok (.aload_n 0, 1) := by decide +kernel
theorem dT_areDoings_25 : decode mT_areDoings.2.1 25 = .ok (.bipush 48, 2) := by decide +kernel
theorem dT_areDoings_27 : decode mT_areDoings.2.1 27 = .ok (.bipush 57, 2) := by decide +kernel
theorem dT_areDoings_29 : decode mT_areDoings.2.1 29 = .ok (.invokevirtual 25, 3) := by decide +kernel
theorem dT_areDoings_32 : decode mT_areDoings.2.1 32 = .ok (.ifCond .eq 14, 3) := by decide +kernel
theorem dT_areDoings_35 : decode mT_areDoings.2.1 35 = .ok (.aload_n 0, 1) := by decide +kernel
theorem dT_areDoings_36 : decode mT_areDoings.2.1 36 = .ok (.bipush 48, 2) := by decide +kernel
theorem dT_areDoings_38 : decode mT_areDoings.2.1 38 = .ok (.bipush 51, 2) := by decide +kernel
theorem dT_areDoings_40 : decode mT_areDoings.2.1 40 = .ok (.invokevirtual 25, 3) := by decide +kernel
theorem dT_areDoings_43 : decode mT_areDoings.2.1 43 = .ok (.ifCond .ne 5, 3) := by decide +kernel
theorem dT_areDoings_46 : decode mT_areDoings.2.1 46 = .ok (.iconst 0, 1) := by decide +kernel
theorem dT_areDoings_47 : decode mT_areDoings.2.1 47 = .ok (.ireturn, 1) := by decide +kernel
theorem dT_areDoings_48 : decode mT_areDoings.2.1 48 = .ok (.aload_n 0, 1) := by decide +kernel
theorem dT_areDoings_49 : decode mT_areDoings.2.1 49 = .ok (.dup, 1) := by decide +kernel
theorem dT_areDoings_50 : decode mT_areDoings.2.1 50 = .ok (.getfield 36, 3) := by decide +kernel
theorem dT_areDoings_53 : decode mT_areDoings.2.1 53 = .ok (.iconst 1, 1) := by decide +kernel
theorem dT_areDoings_54 : decode mT_areDoings.2.1 54 = .ok (.iadd, 1) := by decide +kernel
theorem dT_areDoings_55 : decode mT_areDoings.2.1 55 = .ok (.putfield 36, 3) := by decide +kernel
theorem dT_areDoings_58 : decode mT_areDoings.2.1 58 = .ok (.goto (-53), 3) := by decide +kernel
theorem dT_areDoings_61 : decode mT_areDoings.2.1 61 = .ok (.aload_n 0, 1) := by decide +kernel
theorem dT_areDoings_62 : decode mT_areDoings.2.1 62 = .ok (.getfield 36, 3) := by decide +kernel
theorem dT_areDoings_65 : decode mT_areDoings.2.1 65 = .ok (.ifCond .le 7, 3) := by decide +kernel
theorem dT_areDoings_68 : decode mT_areDoings.2.1 68 = .ok (.iconst 1, 1) := by decide +kernel
theorem dT_areDoings_69 : decode mT_areDoings.2.1 69 = .ok (.goto 4, 3) := by decide +kernel
theorem dT_areDoings_72 : decode mT_areDoings.2.1 72 = .ok (.iconst 0, 1) := by decide +kernel
theorem dT_areDoings_73 : decode mT_areDoings.2.1 73 = .ok (.ireturn, 1) := by decide +kernel
theorem dT_areGuests_0 : decode mT_areGuests.2.1 0 = .ok (.aload_n 0, 1) := by decide +kernel
theorem dT_areGuests_1 : decode mT_areGuests.2.1 1 = .ok (.iconst 0, 1) := by decide +kernel
theorem dT_areGuests_2 : decode mT_areGuests.2.1 2 = .ok (.putfield 39, 3) := by decide +kernel
theorem dT_areGuests_5 : decode mT_areGuests.2.1 5 = .ok (.aload_n 0, 1) := by decide +kernel
theorem dT_areGuests_6 : decode mT_areGuests.2.1 6 = .ok (.getfield 39, 3) := by decide +kernel
theorem dT_areGuests_9 : decode mT_areGuests.2.1 9 = .ok (.bipush 6, 2) := by decide +kernel
theorem dT_areGuests_11 : decode mT_areGuests.2.1 11 = .ok (.if_icmp .ge 65, 3) := by decide +kernel
theorem dT_areGuests_14 : decode mT_areGuests.2.1 14 = .ok (.aload_n 0, 1) := by decide +kernel
theorem dT_areGuests_15 : decode mT_areGuests.2.1 15 = .ok (.bipush 59, 2) := by decide +kernel
theorem dT_areGuests_17 : decode mT_areGuests.2.1 17 = .ok (.bipush 59, 2) := by decide +kernel
theorem dT_areGuests_19 : decode mT_areGuests.2.1 19 = .ok (.invokevirtual 25, 3) := by decide +kernel
theorem dT_areGuests_22 : decode mT_areGuests.2.1 22 = .ok (.ifCond .eq 54, 3) := by decide +kernel
theorem dT_areGuests_25 : decode mT_areGuests.2.1 25 = .ok (.aload_n 0, 1) := by decide +kernel
theorem dT_areGuests_26 : decode mT_areGuests.2.1 26 = .ok (.invokevirtual 42, 3) := by decide +kernel
theorem dT_areGuests_29 : decode mT_areGuests.2.1 29 = .ok (.ifCond .eq 32, 3) := by decide +kernel
theorem dT_areGuests_32 : decode mT_areGuests.2.1 32 = .ok (.aload_n 0, 1) := by decide +kernel
theorem dT_areGuests_33 : decode mT_areGuests.2.1 33 = .ok (.bipush 48, 2) := by decide +kernel
theorem dT_areGuests_35 : decode mT_areGuests.2.1 35 = .ok (.bipush 57, 2) := by decide +kernel
theorem dT_areGuests_37 : decode mT_areGuests.2.1 37 = .ok (.invokevirtual 25, 3) := by decide +kernel
theorem dT_areGuests_40 : decode mT_areGuests.2.1 40 = .ok (.ifCond .eq 21, 3) := by decide +kernel
theorem dT_areGuests_43 : decode mT_areGuests.2.1 43 = .ok (.aload_n 0, 1) := by decide +kernel
theorem dT_areGuests_44 : decode mT_areGuests.2.1 44 = .ok (.bipush 48, 2) := by decide +kernel
theorem dT_areGuests_46 : decode mT_areGuests.2.1 46 = .ok (.bipush 48, 2) := by decide +kernel
theorem dT_areGuests_48 : decode mT_areGuests.2.1 48 = .ok (.aload_n 0, 1) := by decide +kernel
theorem dT_areGuests_49 : decode mT_areGuests.2.1 49 = .ok (.getfield 36, 3) := by decide +kernel
theorem dT_areGuests_52 : decode mT_areGuests.2.1 52 = .ok (.iadd, 1) := by decide +kernel
theorem dT_areGuests_53 : decode mT_areGuests.2.1 53 = .ok (.iconst 1, 1) := by decide +kernel
theorem dT_areGuests_54 : decode mT_areGuests.2.1 54 = .ok (.isub, 1) := by decide +kernel
theorem dT_areGuests_55 : decode mT_areGuests.2.1 55 = .ok (.invokevirtual 25, 3) := by decide +kernel
theorem dT_areGuests_58 : decode mT_areGuests.2.1 58 = .ok (.ifCond .ne 5, 3) := by decide +kernel
theorem dT_areGuests_61 : decode mT_areGuests.2.1 61 = .ok (.iconst 0, 1) := by decide +kernel
theorem dT_areGuests_62 : decode mT_areGuests.2.1 62 = .ok (.ireturn, 1) := by decide +kernel
theorem dT_areGuests_63 : decode mT_areGuests.2.1 63 = .ok (.aload_n 0, 1) := by decide +kernel
theorem dT_areGuests_64 : decode mT_areGuests.2.1 64 = .ok (.dup, 1) := by decide +kernel
theorem dT_areGuests_65 : decode mT_areGuests.2.1 65 = .ok (.getfield 39, 3) := by decide +kernel
theorem dT_areGuests_68 : decode mT_areGuests.2.1 68 = .ok (.iconst 1, 1) := by decide +kernel
theorem dT_areGuests_69 : decode mT_areGuests.2.1 69 = .ok (.iadd, 1) := by decide +kernel
theorem dT_areGuests_70 : decode mT_areGuests.2.1 70 = .ok (.putfield 39, 3) := by decide +kernel
theorem dT_areGuests_73 : decode mT_areGuests.2.1 73 = .ok (.goto (-68), 3) := by decide +kernel
theorem dT_areGuests_76 : decode mT_areGuests.2.1 76 = .ok (.aload_n 0, 1) := by decide +kernel
theorem dT_areGuests_77 : decode mT_areGuests.2.1 77 = .ok (.getfield 39, 3) := by decide +kernel
theorem dT_areGuests_80 : decode mT_areGuests.2.1 80 = .ok (.iconst 2, 1) := by decide +kernel
theorem dT_areGuests_81 : decode mT_areGuests.2.1 81 = .ok (.if_icmp .lt 7, 3) := by decide +kernel
theorem dT_areGuests_84 : decode mT_areGuests.2.1 84 = .ok (.iconst 1, 1) := by decide +kernel
theorem dT_areGuests_85 : decode mT_areGuests.2.1 85 = .ok (.goto 4, 3) := by decide +kernel
theorem dT_areGuests_88 : decode mT_areGuests.2.1 88 = .ok (.iconst 0, 1) := by decide +kernel
theorem dT_areGuests_89 : decode mT_areGuests.2.1 89 = .ok (.ireturn, 1) := by decide +kernel
theorem dT_init_0 : decode mT_init.2.1 0 = .ok (.aload_n 0, 1) := by decide +kernel
theorem dT_init_1 : decode mT_init.2.1 1 = .ok (.invokespecial 3, 3) := by decide +kernel
theorem dT_init_4 : decode mT_init.2.1 4 = .ok (.aload_n 0, 1) := by decide +kernel
theorem dT_init_5 : decode mT_init.2.1 5 = .ok (.iconst 0, 1) := by decide +kernel
theorem dT_init_6 : decode mT_init.2.1 6 = .ok (.newarray .int, 2) := by decide +kernel
theorem dT_init_8 : decode mT_init.2.1 8 = .ok (.putfield 9, 3) := by decide +kernel
theorem dT_init_11 : decode mT_init.2.1 11 = .ok (.return_, 1) := by decide +kernel
theorem dT_isLetter_0 : decode mT_isLetter.2.1 0 = .ok (.aload_n 0, 1) := by decide +kernel
theorem dT_isLetter_1 : decode mT_isLetter.2.1 1 = .ok (.bipush 103, 2) := by decide +kernel
theorem dT_isLetter_3 : decode mT_isLetter.2.1 3 = .ok (.bipush 103, 2) := by decide +kernel
theorem dT_isLetter_5 : decode mT_isLetter.2.1 5 = .ok (.invokevirtual 25, 3) := by decide +kernel
theorem dT_isLetter_8 : decode mT_isLetter.2.1 8 = .ok (.ifCond .ne 25, 3) := by decide +kernel
theorem dT_isLetter_11 : decode mT_isLetter.2.1 11 = .ok (.aload_n 0, 1) := by decide +kernel
theorem dT_isLetter_12 : decode mT_isLetter.2.1 12 = .ok (.bipush 99, 2) := by decide +kernel
theorem dT_isLetter_14 : decode mT_isLetter.2.1 14 = .ok (.bipush 99, 2) := by decide +kernel
theorem dT_isLetter_16 : decode mT_isLetter.2.1 16 = .ok (.invokevirtual 25, 3) := by decide +kernel
theorem dT_isLetter_19 : decode mT_isLetter.2.1 19 = .ok (.ifCond .ne 14, 3) := by decide +kernel
theorem dT_isLetter_22 : decode mT_isLetter.2.1 22 = .ok (.aload_n 0, 1) := by decide +kernel
theorem dT_isLetter_23 : decode mT_isLetter.2.1 23 = .ok (.bipush 112, 2) := by decide +kernel
theorem dT_isLetter_25 : decode mT_isLetter.2.1 25 = .ok (.bipush 112, 2) := by decide +kernel
theorem dT_isLetter_27 : decode mT_isLetter.2.1 27 = .ok (.invokevirtual 25, 3) := by decide +kernel
theorem dT_isLetter_30 : decode mT_isLetter.2.1 30 = .ok (.ifCond .eq 7, 3) := by decide +kernel
theorem dT_isLetter_33 : decode mT_isLetter.2.1 33 = .ok (.iconst 1, 1) := by decide +kernel
theorem dT_isLetter_34 : decode mT_isLetter.2.1 34 = .ok (.goto 4, 3) := by decide +kernel
theorem dT_isLetter_37 : decode mT_isLetter.2.1 37 = .ok (.iconst 0, 1) := by decide +kernel
theorem dT_isLetter_38 : decode mT_isLetter.2.1 38 = .ok (.ireturn, 1) := by decide +kernel
theorem dT_isOne_0 : decode mT_isOne.2.1 0 = .ok (.aload_n 0, 1) := by decide +kernel
theorem dT_isOne_1 : decode mT_isOne.2.1 1 = .ok (.aload_n 1, 1) := by decide +kernel
theorem dT_isOne_2 : decode mT_isOne.2.1 2 = .ok (.putfield 9, 3) := by decide +kernel
theorem dT_isOne_5 : decode mT_isOne.2.1 5 = .ok (.aload_n 0, 1) := by decide +kernel
theorem dT_isOne_6 : decode mT_isOne.2.1 6 = .ok (.iload_n 2, 1) := by decide +kernel
theorem dT_isOne_7 : decode mT_isOne.2.1 7 = .ok (.putfield 15, 3) := by decide +kernel
theorem dT_isOne_10 : decode mT_isOne.2.1 10 = .ok (.aload_n 0, 1) := by decide +kernel
theorem dT_isOne_11 : decode mT_isOne.2.1 11 = .ok (.iload_n 3, 1) := by decide +kernel
theorem dT_isOne_12 : decode mT_isOne.2.1 12 = .ok (.putfield 19, 3) := by decide +kernel
theorem dT_isOne_15 : decode mT_isOne.2.1 15 = .ok (.aload_n 0, 1) := by decide +kernel
theorem dT_isOne_16 : decode mT_isOne.2.1 16 = .ok (.iconst 0, 1) := by decide +kernel
theorem dT_isOne_17 : decode mT_isOne.2.1 17 = .ok (.putfield 22, 3) := by decide +kernel
theorem dT_isOne_20 : decode mT_isOne.2.1 20 = .ok (.aload_n 0, 1) := by decide +kernel
theorem dT_isOne_21 : decode mT_isOne.2.1 21 = .ok (.bipush 122, 2) := by decide +kernel
theorem dT_isOne_23 : decode mT_isOne.2.1 23 = .ok (.bipush 122, 2) := by decide +kernel
theorem dT_isOne_25 : decode mT_isOne.2.1 25 = .ok (.invokevirtual 25, 3) := by decide +kernel
theorem dT_isOne_28 : decode mT_isOne.2.1 28 = .ok (.ifCond .eq 29, 3) := by decide +kernel
theorem dT_isOne_31 : decode mT_isOne.2.1 31 = .ok (.aload_n 0, 1) := by decide +kernel
theorem dT_isOne_32 : decode mT_isOne.2.1 32 = .ok (.bipush 48, 2) := by decide +kernel
theorem dT_isOne_34 : decode mT_isOne.2.1 34 = .ok (.bipush 53, 2) := by decide +kernel
theorem dT_isOne_36 : decode mT_isOne.2.1 36 = .ok (.invokevirtual 25, 3) := by decide +kernel
theorem dT_isOne_39 : decode mT_isOne.2.1 39 = .ok (.ifCond .eq 18, 3) := by decide +kernel
theorem dT_isOne_42 : decode mT_isOne.2.1 42 = .ok (.aload_n 0, 1) := by decide +kernel
theorem dT_isOne_43 : decode mT_isOne.2.1 43 = .ok (.bipush 49, 2) := by decide +kernel
theorem dT_isOne_45 : decode mT_isOne.2.1 45 = .ok (.bipush 57, 2) := by decide +kernel
theorem dT_isOne_47 : decode mT_isOne.2.1 47 = .ok (.invokevirtual 25, 3) := by decide +kernel
theorem dT_isOne_50 : decode mT_isOne.2.1 50 = .ok (.ifCond .eq 7, 3) := by decide +kernel
theorem dT_isOne_53 : decode mT_isOne.2.1 53 = .ok (.iconst 1, 1) := by decide +kernel
theorem dT_isOne_54 : decode mT_isOne.2.1 54 = .ok (.goto 4, 3) := by decide +kernel
theorem dT_isOne_57 : decode mT_isOne.2.1 57 = .ok (.iconst 0, 1) := by decide +kernel
theorem dT_isOne_58 : decode mT_isOne.2.1 58 = .ok (.istore 4, 2) := by decide +kernel
theorem dT_isOne_60 : decode mT_isOne.2.1 60 = .ok (.iload 4, 2) := by decide +kernel
theorem dT_isOne_62 : decode mT_isOne.2.1 62 = .ok (.ifCond .eq 32, 3) := by decide +kernel
theorem dT_isOne_65 : decode mT_isOne.2.1 65 = .ok (.aload_n 0, 1) := by decide +kernel
theorem dT_isOne_66 : decode mT_isOne.2.1 66 = .ok (.invokevirtual 29, 3) := by decide +kernel
theorem dT_isOne_69 : decode mT_isOne.2.1 69 = .ok (.ifCond .eq 25, 3) := by decide +kernel
theorem dT_isOne_72 : decode mT_isOne.2.1 72 = .ok (.aload_n 0, 1) := by decide +kernel
theorem dT_isOne_73 : decode mT_isOne.2.1 73 = .ok (.invokevirtual 33, 3) := by decide +kernel
theorem dT_isOne_76 : decode mT_isOne.2.1 76 = .ok (.ifCond .eq 18, 3) := by decide +kernel
theorem dT_isOne_79 : decode mT_isOne.2.1 79 = .ok (.aload_n 0, 1) := by decide +kernel
theorem dT_isOne_80 : decode mT_isOne.2.1 80 = .ok (.getfield 22, 3) := by decide +kernel
theorem dT_isOne_83 : decode mT_isOne.2.1 83 = .ok (.aload_n 0, 1) := by decide +kernel
theorem dT_isOne_84 : decode mT_isOne.2.1 84 = .ok (.getfield 19, 3) := by decide +kernel
theorem dT_isOne_87 : decode mT_isOne.2.1 87 = .ok (.if_icmp .ne 7, 3) := by decide +kernel
theorem dT_isOne_90 : decode mT_isOne.2.1 90 = .ok (.iconst 1, 1) := by decide +kernel
theorem dT_isOne_91 : decode mT_isOne.2.1 91 = .ok (.goto 4, 3) := by decide +kernel
theorem dT_isOne_94 : decode mT_isOne.2.1 94 = .ok (.iconst 0, 1) := by decide +kernel
theorem dT_isOne_95 : decode mT_isOne.2.1 95 = .ok (.ireturn, 1) := by decide +kernel
theorem dT_next_0 : decode mT_next.2.1 0 = .ok (.aload_n 0, 1) := by decide +kernel
theorem dT_next_1 : decode mT_next.2.1 1 = .ok (.getfield 22, 3) := by decide +kernel
theorem dT_next_4 : decode mT_next.2.1 4 = .ok (.aload_n 0, 1) := by decide +kernel
theorem dT_next_5 : decode mT_next.2.1 5 = .ok (.getfield 19, 3) := by decide +kernel
theorem dT_next_8 : decode mT_next.2.1 8 = .ok (.if_icmp .lt 5, 3) := by decide +kernel
theorem dT_next_11 : decode mT_next.2.1 11 = .ok (.iconst 0, 1) := by decide +kernel
theorem dT_next_12 : decode mT_next.2.1 12 = .ok (.ireturn, 1) := by decide +kernel
theorem dT_next_13 : decode mT_next.2.1 13 = .ok (.aload_n 0, 1) := by decide +kernel
theorem dT_next_14 : decode mT_next.2.1 14 = .ok (.getfield 9, 3) := by decide +kernel
theorem dT_next_17 : decode mT_next.2.1 17 = .ok (.aload_n 0, 1) := by decide +kernel
theorem dT_next_18 : decode mT_next.2.1 18 = .ok (.getfield 15, 3) := by decide +kernel
theorem dT_next_21 : decode mT_next.2.1 21 = .ok (.aload_n 0, 1) := by decide +kernel
theorem dT_next_22 : decode mT_next.2.1 22 = .ok (.getfield 22, 3) := by decide +kernel
theorem dT_next_25 : decode mT_next.2.1 25 = .ok (.iadd, 1) := by decide +kernel
theorem dT_next_26 : decode mT_next.2.1 26 = .ok (.iaload, 1) := by decide +kernel
theorem dT_next_27 : decode mT_next.2.1 27 = .ok (.istore_n 3, 1) := by decide +kernel
theorem dT_next_28 : decode mT_next.2.1 28 = .ok (.iload_n 3, 1) := by decide +kernel
theorem dT_next_29 : decode mT_next.2.1 29 = .ok (.iload_n 1, 1) := by decide +kernel
theorem dT_next_30 : decode mT_next.2.1 30 = .ok (.if_icmp .lt 8, 3) := by decide +kernel
theorem dT_next_33 : decode mT_next.2.1 33 = .ok (.iload_n 3, 1) := by decide +kernel
theorem dT_next_34 : decode mT_next.2.1 34 = .ok (.iload_n 2, 1) := by decide +kernel
theorem dT_next_35 : decode mT_next.2.1 35 = .ok (.if_icmp .le 5, 3) := by decide +kernel
theorem dT_next_38 : decode mT_next.2.1 38 = .ok (.iconst 0, 1) := by decide +kernel
theorem dT_next_39 : decode mT_next.2.1 39 = .ok (.ireturn, 1) := by decide +kernel
theorem dT_next_40 : decode mT_next.2.1 40 = .ok (.aload_n 0, 1) := by decide +kernel
theorem dT_next_41 : decode mT_next.2.1 41 = .ok (.dup, 1) := by decide +kernel
theorem dT_next_42 : decode mT_next.2.1 42 = .ok (.getfield 22, 3) := by decide +kernel
theorem dT_next_45 : decode mT_next.2.1 45 = .ok (.iconst 1, 1) := by decide +kernel
theorem dT_next_46 : decode mT_next.2.1 46 = .ok (.iadd, 1) := by decide +kernel
theorem dT_next_47 : decode mT_next.2.1 47 = .ok (.putfield 22, 3) := by decide +kernel
theorem dT_next_50 : decode mT_next.2.1 50 = .ok (.iconst 1, 1) := by decide +kernel
theorem dT_next_51 : decode mT_next.2.1 51 = .ok (.ireturn, 1) := by decide +kernel
end
section
theorem dM_areSo_0 : decode mM_areSo.2.1 0 = .ok (.iconst 1, 1) := by decide +kernel
theorem dM_areSo_1 : decode mM_areSo.2.1 1 = .ok (.istore_n 1, 1) := by decide +kernel
theorem dM_areSo_2 : decode mM_areSo.2.1 2 = .ok (.iconst 0, 1) := by decide +kernel
theorem dM_areSo_3 : decode mM_areSo.2.1 3 = .ok (.istore_n 2, 1) := by decide +kernel
theorem dM_areSo_4 : decode mM_areSo.2.1 4 = .ok (.iload_n 2, 1) := by decide +kernel
theorem dM_areSo_5 : decode mM_areSo.2.1 5 = .ok (.aload_n 0, 1) := by decide +kernel
theorem dM_areSo_6 : decode mM_areSo.2.1 6 = .ok (.getfield 145, 3) := by decide +kernel
theorem dM_areSo_9 : decode mM_areSo.2.1 9 = .ok (.if_icmp .ge 44, 3) := by decide +kernel
theorem dM_areSo_12 : decode mM_areSo.2.1 12 = .ok (.iload_n 1, 1) := by decide +kernel
theorem dM_areSo_13 : decode mM_areSo.2.1 13 = .ok (.ifCond .eq 32, 3) := by decide +kernel
theorem dM_areSo_16 : decode mM_areSo.2.1 16 = .ok (.aload_n 0, 1) := by decide +kernel
theorem dM_areSo_17 : decode mM_areSo.2.1 17 = .ok (.aload_n 0, 1) := by decide +kernel
theorem dM_areSo_18 : decode mM_areSo.2.1 18 = .ok (.getfield 43, 3) := by decide +kernel
theorem dM_areSo_21 : decode mM_areSo.2.1 21 = .ok (.iload_n 2, 1) := by decide +kernel
theorem dM_areSo_22 : decode mM_areSo.2.1 22 = .ok (.iaload, 1) := by decide +kernel
theorem dM_areSo_23 : decode mM_areSo.2.1 23 = .ok (.aload_n 0, 1) := by decide +kernel
theorem dM_areSo_24 : decode mM_areSo.2.1 24 = .ok (.getfield 46, 3) := by decide +kernel
theorem dM_areSo_27 : decode mM_areSo.2.1 27 = .ok (.iload_n 2, 1) := by decide +kernel
theorem dM_areSo_28 : decode mM_areSo.2.1 28 = .ok (.iaload, 1) := by decide +kernel
theorem dM_areSo_29 : decode mM_areSo.2.1 29 = .ok (.invokevirtual 151, 3) := by decide +kernel
theorem dM_areSo_32 : decode mM_areSo.2.1 32 = .ok (.aload_n 0, 1) := by decide +kernel
theorem dM_areSo_33 : decode mM_areSo.2.1 33 = .ok (.getfield 49, 3) := by decide +kernel
theorem dM_areSo_36 : decode mM_areSo.2.1 36 = .ok (.iload_n 2, 1) := by decide +kernel
theorem dM_areSo_37 : decode mM_areSo.2.1 37 = .ok (.baload, 1) := by decide +kernel
theorem dM_areSo_38 : decode mM_areSo.2.1 38 = .ok (.if_icmp .ne 7, 3) := by decide +kernel
theorem dM_areSo_41 : decode mM_areSo.2.1 41 = .ok (.iconst 1, 1) := by decide +kernel
theorem dM_areSo_42 : decode mM_areSo.2.1 42 = .ok (.goto 4, 3) := by decide +kernel
theorem dM_areSo_45 : decode mM_areSo.2.1 45 = .ok (.iconst 0, 1) := by decide +kernel
theorem dM_areSo_46 : decode mM_areSo.2.1 46 = .ok (.istore_n 1, 1) := by decide +kernel
theorem dM_areSo_47 : decode mM_areSo.2.1 47 = .ok (.iinc 2 1, 3) := by decide +kernel
theorem dM_areSo_50 : decode mM_areSo.2.1 50 = .ok (.goto (-46), 3) := by decide +kernel
theorem dM_areSo_53 : decode mM_areSo.2.1 53 = .ok (.iload_n 1, 1) := by decide +kernel
theorem dM_areSo_54 : decode mM_areSo.2.1 54 = .ok (.ireturn, 1) := by decide +kernel
theorem dM_as_0 : decode mM_as.2.1 0 = .ok (.aload_n 0, 1) := by decide +kernel
theorem dM_as_1 : decode mM_as.2.1 1 = .ok (.iload_n 1, 1) := by decide +kernel
theorem dM_as_2 : decode mM_as.2.1 2 = .ok (.invokevirtual 154, 3) := by decide +kernel
theorem dM_as_5 : decode mM_as.2.1 5 = .ok (.ifCond .eq 9, 3) := by decide +kernel
theorem dM_as_8 : decode mM_as.2.1 8 = .ok (.aload_n 0, 1) := by decide +kernel
theorem dM_as_9 : decode mM_as.2.1 9 = .ok (.iconst (-1), 1) := by decide +kernel
theorem dM_as_10 : decode mM_as.2.1 10 = .ok (.invokevirtual 127, 3) := by decide +kernel
theorem dM_as_13 : decode mM_as.2.1 13 = .ok (.ireturn, 1) := by decide +kernel
theorem dM_as_14 : decode mM_as.2.1 14 = .ok (.iload_n 2, 1) := by decide +kernel
theorem dM_as_15 : decode mM_as.2.1 15 = .ok (.i2l, 1) := by decide +kernel
theorem dM_as_16 : decode mM_as.2.1 16 = .ok (.lconst 0, 1) := by decide +kernel
theorem dM_as_17 : decode mM_as.2.1 17 = .ok (.ldc2_w 130, 3) := by decide +kernel
theorem dM_as_20 : decode mM_as.2.1 20 = .ok (.invokestatic 78, 3) := by decide +kernel
theorem dM_as_23 : decode mM_as.2.1 23 = .ok (.ifCond .ne 10, 3) := by decide +kernel
theorem dM_as_26 : decode mM_as.2.1 26 = .ok (.aload_n 0, 1) := by decide +kernel
theorem dM_as_27 : decode mM_as.2.1 27 = .ok (.bipush (-2), 2) := by decide +kernel
theorem dM_as_29 : decode mM_as.2.1 29 = .ok (.invokevirtual 127, 3) := by decide +kernel
theorem dM_as_32 : decode mM_as.2.1 32 = .ok (.ireturn, 1) := by decide +kernel
theorem dM_as_33 : decode mM_as.2.1 33 = .ok (.aload_n 0, 1) := by decide +kernel
theorem dM_as_34 : decode mM_as.2.1 34 = .ok (.getfield 16, 3) := by decide +kernel
theorem dM_as_37 : decode mM_as.2.1 37 = .ok (.iload_n 1, 1) := by decide +kernel
theorem dM_as_38 : decode mM_as.2.1 38 = .ok (.iaload, 1) := by decide +kernel
theorem dM_as_39 : decode mM_as.2.1 39 = .ok (.iload_n 2, 1) := by decide +kernel
theorem dM_as_40 : decode mM_as.2.1 40 = .ok (.if_icmp .lt 11, 3) := by decide +kernel
theorem dM_as_43 : decode mM_as.2.1 43 = .ok (.aload_n 0, 1) := by decide +kernel
theorem dM_as_44 : decode mM_as.2.1 44 = .ok (.iconst 1, 1) := by decide +kernel
theorem dM_as_45 : decode mM_as.2.1 45 = .ok (.invokevirtual 127, 3) := by decide +kernel
theorem dM_as_48 : decode mM_as.2.1 48 = .ok (.goto 8, 3) := by decide +kernel
theorem dM_as_51 : decode mM_as.2.1 51 = .ok (.aload_n 0, 1) := by decide +kernel
theorem dM_as_52 : decode mM_as.2.1 52 = .ok (.iconst 2, 1) := by decide +kernel
theorem dM_as_53 : decode mM_as.2.1 53 = .ok (.invokevirtual 115, 3) := by decide +kernel
theorem dM_as_56 : decode mM_as.2.1 56 = .ok (.ireturn, 1) := by decide +kernel
theorem dM_ask_0 : decode mM_ask.2.1 0 = .ok (.aload_n 0, 1) := by decide +kernel
theorem dM_ask_1 : decode mM_ask.2.1 1 = .ok (.getfield 75, 3) := by decide +kernel
theorem dM_ask_4 : decode mM_ask.2.1 4 = .ok (.ifCond .ne 6, 3) := by decide +kernel
theorem dM_ask_7 : decode mM_ask.2.1 7 = .ok (.bipush (-3), 2) := by decide +kernel
theorem dM_ask_9 : decode mM_ask.2.1 9 = .ok (.ireturn, 1) := by decide +kernel
theorem dM_ask_10 : decode mM_ask.2.1 10 = .ok (.iload_n 1, 1) := by decide +kernel
theorem dM_ask_11 : decode mM_ask.2.1 11 = .ok (.i2l, 1) := by decide +kernel
theorem dM_ask_12 : decode mM_ask.2.1 12 = .ok (.lconst 0, 1) := by decide +kernel
theorem dM_ask_13 : decode mM_ask.2.1 13 = .ok (.aload_n 0, 1) := by decide +kernel
theorem dM_ask_14 : decode mM_ask.2.1 14 = .ok (.invokevirtual 196, 3) := by decide +kernel
theorem dM_ask_17 : decode mM_ask.2.1 17 = .ok (.i2l, 1) := by decide +kernel
theorem dM_ask_18 : decode mM_ask.2.1 18 = .ok (.invokestatic 78, 3) := by decide +kernel
theorem dM_ask_21 : decode mM_ask.2.1 21 = .ok (.ifCond .ne 6, 3) := by decide +kernel
theorem dM_ask_24 : decode mM_ask.2.1 24 = .ok (.bipush (-2), 2) := by decide +kernel
theorem dM_ask_26 : decode mM_ask.2.1 26 = .ok (.ireturn, 1) := by decide +kernel
theorem dM_ask_27 : decode mM_ask.2.1 27 = .ok (.bipush (-9), 2) := by decide +kernel
theorem dM_ask_29 : decode mM_ask.2.1 29 = .ok (.istore_n 2, 1) := by decide +kernel
theorem dM_ask_30 : decode mM_ask.2.1 30 = .ok (.bipush 99, 2) := by decide +kernel
theorem dM_ask_32 : decode mM_ask.2.1 32 = .ok (.istore_n 3, 1) := by decide +kernel
theorem dM_ask_33 : decode mM_ask.2.1 33 = .ok (.iconst 0, 1) := by decide +kernel
theorem dM_ask_34 : decode mM_ask.2.1 34 = .ok (.istore 4, 2) := by decide +kernel
theorem dM_ask_36 : decode mM_ask.2.1 36 = .ok (.iload 4, 2) := by decide +kernel
theorem dM_ask_38 : decode mM_ask.2.1 38 = .ok (.aload_n 0, 1) := by decide +kernel
theorem dM_ask_39 : decode mM_ask.2.1 39 = .ok (.getfield 82, 3) := by decide +kernel
theorem dM_ask_42 : decode mM_ask.2.1 42 = .ok (.if_icmp .ge 100, 3) := by decide +kernel
theorem dM_ask_45 : decode mM_ask.2.1 45 = .ok (.iconst 0, 1) := by decide +kernel
theorem dM_ask_46 : decode mM_ask.2.1 46 = .ok (.istore 5, 2) := by decide +kernel
theorem dM_ask_48 : decode mM_ask.2.1 48 = .ok (.iload 5, 2) := by decide +kernel
theorem dM_ask_50 : decode mM_ask.2.1 50 = .ok (.aload_n 0, 1) := by decide +kernel
theorem dM_ask_51 : decode mM_ask.2.1 51 = .ok (.getfield 75, 3) := by decide +kernel
theorem dM_ask_54 : decode mM_ask.2.1 54 = .ok (.if_icmp .ge 82, 3) := by decide +kernel
theorem dM_ask_57 : decode mM_ask.2.1 57 = .ok (.iload_n 1, 1) := by decide +kernel
theorem dM_ask_58 : decode mM_ask.2.1 58 = .ok (.iload 5, 2) := by decide +kernel
theorem dM_ask_60 : decode mM_ask.2.1 60 = .ok (.invokestatic 200, 3) := by decide +kernel
theorem dM_ask_63 : decode mM_ask.2.1 63 = .ok (.ifCond .eq 29, 3) := by decide +kernel
theorem dM_ask_66 : decode mM_ask.2.1 66 = .ok (.aload_n 0, 1) := by decide +kernel
theorem dM_ask_67 : decode mM_ask.2.1 67 = .ok (.iload 5, 2) := by decide +kernel
theorem dM_ask_69 : decode mM_ask.2.1 69 = .ok (.iload 4, 2) := by decide +kernel
theorem dM_ask_71 : decode mM_ask.2.1 71 = .ok (.invokevirtual 151, 3) := by decide +kernel
theorem dM_ask_74 : decode mM_ask.2.1 74 = .ok (.ifCond .eq 18, 3) := by decide +kernel
theorem dM_ask_77 : decode mM_ask.2.1 77 = .ok (.aload_n 0, 1) := by decide +kernel
theorem dM_ask_78 : decode mM_ask.2.1 78 = .ok (.getfield 13, 3) := by decide +kernel
theorem dM_ask_81 : decode mM_ask.2.1 81 = .ok (.iload 4, 2) := by decide +kernel
theorem dM_ask_83 : decode mM_ask.2.1 83 = .ok (.iaload, 1) := by decide +kernel
theorem dM_ask_84 : decode mM_ask.2.1 84 = .ok (.iload_n 3, 1) := by decide +kernel
theorem dM_ask_85 : decode mM_ask.2.1 85 = .ok (.if_icmp .ge 7, 3) := by decide +kernel
theorem dM_ask_88 : decode mM_ask.2.1 88 = .ok (.iconst 1, 1) := by decide +kernel
theorem dM_ask_89 : decode mM_ask.2.1 89 = .ok (.goto 4, 3) := by decide +kernel
theorem dM_ask_92 : decode mM_ask.2.1 92 = .ok (.iconst 0, 1) := by decide +kernel
theorem dM_ask_93 : decode mM_ask.2.1 93 = .ok (.istore 6, 2) := by decide +kernel
theorem dM_ask_95 : decode mM_ask.2.1 95 = .ok (.iload 6, 2) := by decide +kernel
theorem dM_ask_97 : decode mM_ask.2.1 97 = .ok (.ifCond .eq 14, 3) := by decide +kernel
theorem dM_ask_100 : decode mM_ask.2.1 100 = .ok (.bipush 10, 2) := by decide +kernel
theorem dM_ask_102 : decode mM_ask.2.1 102 = .ok (.iload 5, 2) := by decide +kernel
theorem dM_ask_104 : decode mM_ask.2.1 104 = .ok (.imul, 1) := by decide +kernel
theorem dM_ask_105 : decode mM_ask.2.1 105 = .ok (.iload 4, 2) := by decide +kernel
theorem dM_ask_107 : decode mM_ask.2.1 107 = .ok (.iadd, 1) := by decide +kernel
theorem dM_ask_108 : decode mM_ask.2.1 108 = .ok (.goto 4, 3) := by decide +kernel
theorem dM_ask_111 : decode mM_ask.2.1 111 = .ok (.iload_n 2, 1) := by decide +kernel
theorem dM_ask_112 : decode mM_ask.2.1 112 = .ok (.istore_n 2, 1) := by decide +kernel
theorem dM_ask_113 : decode mM_ask.2.1 113 = .ok (.iload 6, 2) := by decide +kernel
theorem dM_ask_115 : decode mM_ask.2.1 115 = .ok (.ifCond .eq 13, 3) := by decide +kernel
theorem dM_ask_118 : decode mM_ask.2.1 118 = .ok (.aload_n 0, 1) := by decide +kernel
theorem dM_ask_119 : decode mM_ask.2.1 119 = .ok (.getfield 13, 3) := by decide +kernel
theorem dM_ask_122 : decode mM_ask.2.1 122 = .ok (.iload 4, 2) := by decide +kernel
theorem dM_ask_124 : decode mM_ask.2.1 124 = .ok (.iaload, 1) := by decide +kernel
theorem dM_ask_125 : decode mM_ask.2.1 125 = .ok (.goto 4, 3) := by decide +kernel
theorem dM_ask_128 : decode mM_ask.2.1 128 = .ok (.iload_n 3, 1) := by decide +kernel
theorem dM_ask_129 : decode mM_ask.2.1 129 = .ok (.istore_n 3, 1) := by decide +kernel
theorem dM_ask_130 : decode mM_ask.2.1 130 = .ok (.iinc 5 1, 3) := by decide +kernel
theorem dM_ask_133 : decode mM_ask.2.1 133 = .ok (.goto (-85), 3) := by decide +kernel
theorem dM_ask_136 : decode mM_ask.2.1 136 = .ok (.iinc 4 1, 3) := by decide +kernel
theorem dM_ask_139 : decode mM_ask.2.1 139 = .ok (.goto (-103), 3) := by decide +kernel
theorem dM_ask_142 : decode mM_ask.2.1 142 = .ok (.iload_n 2, 1) := by decide +kernel
theorem dM_ask_143 : decode mM_ask.2.1 143 = .ok (.ireturn, 1) := by decide +kernel
theorem dM_back_0 : decode mM_back.2.1 0 = .ok (.iload_n 1, 1) := by decide +kernel
theorem dM_back_1 : decode mM_back.2.1 1 = .ok (.i2l, 1) := by decide +kernel
theorem dM_back_2 : decode mM_back.2.1 2 = .ok (.lconst 0, 1) := by decide +kernel
theorem dM_back_3 : decode mM_back.2.1 3 = .ok (.aload_n 0, 1) := by decide +kernel
theorem dM_back_4 : decode mM_back.2.1 4 = .ok (.getfield 145, 3) := by decide +kernel
theorem dM_back_7 : decode mM_back.2.1 7 = .ok (.i2l, 1) := by decide +kernel
theorem dM_back_8 : decode mM_back.2.1 8 = .ok (.invokestatic 78, 3) := by decide +kernel
theorem dM_back_11 : decode mM_back.2.1 11 = .ok (.ifCond .ne 6, 3) := by decide +kernel
theorem dM_back_14 : decode mM_back.2.1 14 = .ok (.bipush (-2), 2) := by decide +kernel
theorem dM_back_16 : decode mM_back.2.1 16 = .ok (.ireturn, 1) := by decide +kernel
theorem dM_back_17 : decode mM_back.2.1 17 = .ok (.aload_n 0, 1) := by decide +kernel
theorem dM_back_18 : decode mM_back.2.1 18 = .ok (.dup, 1) := by decide +kernel
theorem dM_back_19 : decode mM_back.2.1 19 = .ok (.getfield 145, 3) := by decide +kernel
theorem dM_back_22 : decode mM_back.2.1 22 = .ok (.iload_n 1, 1) := by decide +kernel
theorem dM_back_23 : decode mM_back.2.1 23 = .ok (.isub, 1) := by decide +kernel
theorem dM_back_24 : decode mM_back.2.1 24 = .ok (.putfield 145, 3) := by decide +kernel
theorem dM_back_27 : decode mM_back.2.1 27 = .ok (.aload_n 0, 1) := by decide +kernel
theorem dM_back_28 : decode mM_back.2.1 28 = .ok (.getfield 145, 3) := by decide +kernel
theorem dM_back_31 : decode mM_back.2.1 31 = .ok (.ireturn, 1) := by decide +kernel
theorem dM_cell_0 : decode mM_cell.2.1 0 = .ok (.aload_n 0, 1) := by decide +kernel
theorem dM_cell_1 : decode mM_cell.2.1 1 = .ok (.iconst 0, 1) := by decide +kernel
theorem dM_cell_2 : decode mM_cell.2.1 2 = .ok (.putfield 67, 3) := by decide +kernel
theorem dM_cell_5 : decode mM_cell.2.1 5 = .ok (.iload_n 1, 1) := by decide +kernel
theorem dM_cell_6 : decode mM_cell.2.1 6 = .ok (.invokestatic 123, 3) := by decide +kernel
theorem dM_cell_9 : decode mM_cell.2.1 9 = .ok (.ifCond .ne 15, 3) := by decide +kernel
theorem dM_cell_12 : decode mM_cell.2.1 12 = .ok (.iload_n 3, 1) := by decide +kernel
theorem dM_cell_13 : decode mM_cell.2.1 13 = .ok (.i2l, 1) := by decide +kernel
theorem dM_cell_14 : decode mM_cell.2.1 14 = .ok (.lconst 0, 1) := by decide +kernel
theorem dM_cell_15 : decode mM_cell.2.1 15 = .ok (.ldc2_w 130, 3) := by decide +kernel
theorem dM_cell_18 : decode mM_cell.2.1 18 = .ok (.invokestatic 78, 3) := by decide +kernel
theorem dM_cell_21 : decode mM_cell.2.1 21 = .ok (.ifCond .ne 7, 3) := by decide +kernel
theorem dM_cell_24 : decode mM_cell.2.1 24 = .ok (.invokestatic 71, 3) := by decide +kernel
theorem dM_cell_27 : decode mM_cell.2.1 27 = .ok (.lreturn, 1) := by decide +kernel
theorem dM_cell_28 : decode mM_cell.2.1 28 = .ok (.aload_n 0, 1) := by decide +kernel
theorem dM_cell_29 : decode mM_cell.2.1 29 = .ok (.getfield 53, 3) := by decide +kernel
theorem dM_cell_32 : decode mM_cell.2.1 32 = .ok (.iload_n 1, 1) := by decide +kernel
theorem dM_cell_33 : decode mM_cell.2.1 33 = .ok (.iaload, 1) := by decide +kernel
theorem dM_cell_34 : decode mM_cell.2.1 34 = .ok (.ifCond .lt 19, 3) := by decide +kernel
theorem dM_cell_37 : decode mM_cell.2.1 37 = .ok (.aload_n 0, 1) := by decide +kernel
theorem dM_cell_38 : decode mM_cell.2.1 38 = .ok (.getfield 56, 3) := by decide +kernel
theorem dM_cell_41 : decode mM_cell.2.1 41 = .ok (.iload_n 1, 1) := by decide +kernel
theorem dM_cell_42 : decode mM_cell.2.1 42 = .ok (.iaload, 1) := by decide +kernel
theorem dM_cell_43 : decode mM_cell.2.1 43 = .ok (.iload_n 3, 1) := by decide +kernel
theorem dM_cell_44 : decode mM_cell.2.1 44 = .ok (.if_icmp .eq 9, 3) := by decide +kernel
theorem dM_cell_47 : decode mM_cell.2.1 47 = .ok (.aload_n 0, 1) := by decide +kernel
theorem dM_cell_48 : decode mM_cell.2.1 48 = .ok (.iconst 2, 1) := by decide +kernel
theorem dM_cell_49 : decode mM_cell.2.1 49 = .ok (.invokevirtual 232, 3) := by decide +kernel
theorem dM_cell_52 : decode mM_cell.2.1 52 = .ok (.lreturn, 1) := by decide +kernel
theorem dM_cell_53 : decode mM_cell.2.1 53 = .ok (.aload_n 0, 1) := by decide +kernel
theorem dM_cell_54 : decode mM_cell.2.1 54 = .ok (.iload_n 1, 1) := by decide +kernel
theorem dM_cell_55 : decode mM_cell.2.1 55 = .ok (.iload_n 2, 1) := by decide +kernel
theorem dM_cell_56 : decode mM_cell.2.1 56 = .ok (.invokevirtual 229, 3) := by decide +kernel
theorem dM_cell_59 : decode mM_cell.2.1 59 = .ok (.ifCond .le 16, 3) := by decide +kernel
theorem dM_cell_62 : decode mM_cell.2.1 62 = .ok (.aload_n 0, 1) := by decide +kernel
theorem dM_cell_63 : decode mM_cell.2.1 63 = .ok (.aload_n 0, 1) := by decide +kernel
theorem dM_cell_64 : decode mM_cell.2.1 64 = .ok (.iload_n 1, 1) := by decide +kernel
theorem dM_cell_65 : decode mM_cell.2.1 65 = .ok (.iload_n 2, 1) := by decide +kernel
theorem dM_cell_66 : decode mM_cell.2.1 66 = .ok (.invokevirtual 229, 3) := by decide +kernel
theorem dM_cell_69 : decode mM_cell.2.1 69 = .ok (.invokevirtual 232, 3) := by decide +kernel
theorem dM_cell_72 : decode mM_cell.2.1 72 = .ok (.goto 15, 3) := by decide +kernel
theorem dM_cell_75 : decode mM_cell.2.1 75 = .ok (.aload_n 0, 1) := by decide +kernel
theorem dM_cell_76 : decode mM_cell.2.1 76 = .ok (.getfield 59, 3) := by decide +kernel
theorem dM_cell_79 : decode mM_cell.2.1 79 = .ok (.bipush 60, 2) := by decide +kernel
theorem dM_cell_81 : decode mM_cell.2.1 81 = .ok (.iload_n 1, 1) := by decide +kernel
theorem dM_cell_82 : decode mM_cell.2.1 82 = .ok (.imul, 1) := by decide +kernel
theorem dM_cell_83 : decode mM_cell.2.1 83 = .ok (.iload_n 2, 1) := by decide +kernel
theorem dM_cell_84 : decode mM_cell.2.1 84 = .ok (.iadd, 1) := by decide +kernel
theorem dM_cell_85 : decode mM_cell.2.1 85 = .ok (.iaload, 1) := by decide +kernel
theorem dM_cell_86 : decode mM_cell.2.1 86 = .ok (.i2l, 1) := by decide +kernel
theorem dM_cell_87 : decode mM_cell.2.1 87 = .ok (.lreturn, 1) := by decide +kernel
theorem dM_cellsBarred_0 : decode mM_cellsBarred.2.1 0 = .ok (.aload_n 0, 1) := by decide +kernel
theorem dM_cellsBarred_1 : decode mM_cellsBarred.2.1 1 = .ok (.getfield 53, 3) := by decide +kernel
theorem dM_cellsBarred_4 : decode mM_cellsBarred.2.1 4 = .ok (.iload_n 1, 1) := by decide +kernel
theorem dM_cellsBarred_5 : decode mM_cellsBarred.2.1 5 = .ok (.iaload, 1) := by decide +kernel
theorem dM_cellsBarred_6 : decode mM_cellsBarred.2.1 6 = .ok (.ifCond .lt 19, 3) := by decide +kernel
theorem dM_cellsBarred_9 : decode mM_cellsBarred.2.1 9 = .ok (.aload_n 0, 1) := by decide +kernel
theorem dM_cellsBarred_10 : decode mM_cellsBarred.2.1 10 = .ok (.getfield 56, 3) := by decide +kernel
theorem dM_cellsBarred_13 : decode mM_cellsBarred.2.1 13 = .ok (.iload_n 1, 1) := by decide +kernel
theorem dM_cellsBarred_14 : decode mM_cellsBarred.2.1 14 = .ok (.iaload, 1) := by decide +kernel
theorem dM_cellsBarred_15 : decode mM_cellsBarred.2.1 15 = .ok (.iload_n 2, 1) := by decide +kernel
theorem dM_cellsBarred_16 : decode mM_cellsBarred.2.1 16 = .ok (.if_icmp .eq 9, 3) := by decide +kernel
theorem dM_cellsBarred_19 : decode mM_cellsBarred.2.1 19 = .ok (.aload_n 0, 1) := by decide +kernel
theorem dM_cellsBarred_20 : decode mM_cellsBarred.2.1 20 = .ok (.iconst 2, 1) := by decide +kernel
theorem dM_cellsBarred_21 : decode mM_cellsBarred.2.1 21 = .ok (.invokevirtual 115, 3) := by decide +kernel
theorem dM_cellsBarred_24 : decode mM_cellsBarred.2.1 24 = .ok (.ireturn, 1) := by decide +kernel
theorem dM_cellsBarred_25 : decode mM_cellsBarred.2.1 25 = .ok (.aload_n 0, 1) := by decide +kernel
theorem dM_cellsBarred_26 : decode mM_cellsBarred.2.1 26 = .ok (.getfield 53, 3) := by decide +kernel
theorem dM_cellsBarred_29 : decode mM_cellsBarred.2.1 29 = .ok (.iload_n 1, 1) := by decide +kernel
theorem dM_cellsBarred_30 : decode mM_cellsBarred.2.1 30 = .ok (.iaload, 1) := by decide +kernel
theorem dM_cellsBarred_31 : decode mM_cellsBarred.2.1 31 = .ok (.ifCond .ge 9, 3) := by decide +kernel
theorem dM_cellsBarred_34 : decode mM_cellsBarred.2.1 34 = .ok (.aload_n 0, 1) := by decide +kernel
theorem dM_cellsBarred_35 : decode mM_cellsBarred.2.1 35 = .ok (.iconst 1, 1) := by decide +kernel
theorem dM_cellsBarred_36 : decode mM_cellsBarred.2.1 36 = .ok (.invokevirtual 115, 3) := by decide +kernel
theorem dM_cellsBarred_39 : decode mM_cellsBarred.2.1 39 = .ok (.ireturn, 1) := by decide +kernel
theorem dM_cellsBarred_40 : decode mM_cellsBarred.2.1 40 = .ok (.lload 4, 2) := by decide +kernel
theorem dM_cellsBarred_42 : decode mM_cellsBarred.2.1 42 = .ok (.lconst 0, 1) := by decide +kernel
theorem dM_cellsBarred_43 : decode mM_cellsBarred.2.1 43 = .ok (.lcmp, 1) := by decide +kernel
theorem dM_cellsBarred_44 : decode mM_cellsBarred.2.1 44 = .ok (.ifCond .ge 9, 3) := by decide +kernel
theorem dM_cellsBarred_47 : decode mM_cellsBarred.2.1 47 = .ok (.aload_n 0, 1) := by decide +kernel
theorem dM_cellsBarred_48 : decode mM_cellsBarred.2.1 48 = .ok (.iconst 4, 1) := by decide +kernel
theorem dM_cellsBarred_49 : decode mM_cellsBarred.2.1 49 = .ok (.invokevirtual 115, 3) := by decide +kernel
theorem dM_cellsBarred_52 : decode mM_cellsBarred.2.1 52 = .ok (.ireturn, 1) := by decide +kernel
theorem dM_cellsBarred_53 : decode mM_cellsBarred.2.1 53 = .ok (.iload_n 3, 1) := by decide +kernel
theorem dM_cellsBarred_54 : decode mM_cellsBarred.2.1 54 = .ok (.lload 4, 2) := by decide +kernel
theorem dM_cellsBarred_56 : decode mM_cellsBarred.2.1 56 = .ok (.aload_n 0, 1) := by decide +kernel
theorem dM_cellsBarred_57 : decode mM_cellsBarred.2.1 57 = .ok (.getfield 53, 3) := by decide +kernel
theorem dM_cellsBarred_60 : decode mM_cellsBarred.2.1 60 = .ok (.iload_n 1, 1) := by decide +kernel
theorem dM_cellsBarred_61 : decode mM_cellsBarred.2.1 61 = .ok (.iaload, 1) := by decide +kernel
theorem dM_cellsBarred_62 : decode mM_cellsBarred.2.1 62 = .ok (.invokestatic 119, 3) := by decide +kernel
theorem dM_cellsBarred_65 : decode mM_cellsBarred.2.1 65 = .ok (.ifCond .eq 11, 3) := by decide +kernel
theorem dM_cellsBarred_68 : decode mM_cellsBarred.2.1 68 = .ok (.aload_n 0, 1) := by decide +kernel
theorem dM_cellsBarred_69 : decode mM_cellsBarred.2.1 69 = .ok (.iconst 3, 1) := by decide +kernel
theorem dM_cellsBarred_70 : decode mM_cellsBarred.2.1 70 = .ok (.invokevirtual 115, 3) := by decide +kernel
theorem dM_cellsBarred_73 : decode mM_cellsBarred.2.1 73 = .ok (.goto 4, 3) := by decide +kernel
theorem dM_cellsBarred_76 : decode mM_cellsBarred.2.1 76 = .ok (.iconst 0, 1) := by decide +kernel
theorem dM_cellsBarred_77 : decode mM_cellsBarred.2.1 77 = .ok (.ireturn, 1) := by decide +kernel
theorem dM_charms_0 : decode mM_charms.2.1 0 = .ok (.aload_n 0, 1) := by decide +kernel
theorem dM_charms_1 : decode mM_charms.2.1 1 = .ok (.iload_n 1, 1) := by decide +kernel
theorem dM_charms_2 : decode mM_charms.2.1 2 = .ok (.invokevirtual 157, 3) := by decide +kernel
theorem dM_charms_5 : decode mM_charms.2.1 5 = .ok (.ifCond .eq 5, 3) := by decide +kernel
theorem dM_charms_8 : decode mM_charms.2.1 8 = .ok (.iconst (-1), 1) := by decide +kernel
theorem dM_charms_9 : decode mM_charms.2.1 9 = .ok (.ireturn, 1) := by decide +kernel
theorem dM_charms_10 : decode mM_charms.2.1 10 = .ok (.aload_n 0, 1) := by decide +kernel
theorem dM_charms_11 : decode mM_charms.2.1 11 = .ok (.getfield 7, 3) := by decide +kernel
theorem dM_charms_14 : decode mM_charms.2.1 14 = .ok (.iload_n 1, 1) := by decide +kernel
theorem dM_charms_15 : decode mM_charms.2.1 15 = .ok (.iaload, 1) := by decide +kernel
theorem dM_charms_16 : decode mM_charms.2.1 16 = .ok (.istore_n 2, 1) := by decide +kernel
theorem dM_charms_17 : decode mM_charms.2.1 17 = .ok (.iconst 0, 1) := by decide +kernel
theorem dM_charms_18 : decode mM_charms.2.1 18 = .ok (.istore_n 3, 1) := by decide +kernel
theorem dM_charms_19 : decode mM_charms.2.1 19 = .ok (.iconst 0, 1) := by decide +kernel
theorem dM_charms_20 : decode mM_charms.2.1 20 = .ok (.istore 4, 2) := by decide +kernel
theorem dM_charms_22 : decode mM_charms.2.1 22 = .ok (.iload 4, 2) := by decide +kernel
theorem dM_charms_24 : decode mM_charms.2.1 24 = .ok (.bipush 10, 2) := by decide +kernel
theorem dM_charms_26 : decode mM_charms.2.1 26 = .ok (.if_icmp .ge 35, 3) := by decide +kernel
theorem dM_charms_29 : decode mM_charms.2.1 29 = .ok (.aload_n 0, 1) := by decide +kernel
theorem dM_charms_30 : decode mM_charms.2.1 30 = .ok (.getfield 7, 3) := by decide +kernel
theorem dM_charms_33 : decode mM_charms.2.1 33 = .ok (.iload_n 1, 1) := by decide +kernel
theorem dM_charms_34 : decode mM_charms.2.1 34 = .ok (.iload 4, 2) := by decide +kernel
theorem dM_charms_36 : decode mM_charms.2.1 36 = .ok (.iastore, 1) := by decide +kernel
theorem dM_charms_37 : decode mM_charms.2.1 37 = .ok (.iload_n 3, 1) := by decide +kernel
theorem dM_charms_38 : decode mM_charms.2.1 38 = .ok (.aload_n 0, 1) := by decide +kernel
theorem dM_charms_39 : decode mM_charms.2.1 39 = .ok (.invokevirtual 216, 3) := by decide +kernel
theorem dM_charms_42 : decode mM_charms.2.1 42 = .ok (.ifCond .eq 10, 3) := by decide +kernel
theorem dM_charms_45 : decode mM_charms.2.1 45 = .ok (.iconst 1, 1) := by decide +kernel
theorem dM_charms_46 : decode mM_charms.2.1 46 = .ok (.iload 4, 2) := by decide +kernel
theorem dM_charms_48 : decode mM_charms.2.1 48 = .ok (.ishl, 1) := by decide +kernel
theorem dM_charms_49 : decode mM_charms.2.1 49 = .ok (.goto 4, 3) := by decide +kernel
theorem dM_charms_52 : decode mM_charms.2.1 52 = .ok (.iconst 0, 1) := by decide +kernel
theorem dM_charms_53 : decode mM_charms.2.1 53 = .ok (.ior, 1) := by decide +kernel
theorem dM_charms_54 : decode mM_charms.2.1 54 = .ok (.istore_n 3, 1) := by decide +kernel
theorem dM_charms_55 : decode mM_charms.2.1 55 = .ok (.iinc 4 1, 3) := by decide +kernel
theorem dM_charms_58 : decode mM_charms.2.1 58 = .ok (.goto (-36), 3) := by decide +kernel
theorem dM_charms_61 : decode mM_charms.2.1 61 = .ok (.aload_n 0, 1) := by decide +kernel
theorem dM_charms_62 : decode mM_charms.2.1 62 = .ok (.getfield 7, 3) := by decide +kernel
theorem dM_charms_65 : decode mM_charms.2.1 65 = .ok (.iload_n 1, 1) := by decide +kernel
theorem dM_charms_66 : decode mM_charms.2.1 66 = .ok (.iload_n 2, 1) := by decide +kernel
theorem dM_charms_67 : decode mM_charms.2.1 67 = .ok (.iastore, 1) := by decide +kernel
theorem dM_charms_68 : decode mM_charms.2.1 68 = .ok (.iload_n 3, 1) := by decide +kernel
theorem dM_charms_69 : decode mM_charms.2.1 69 = .ok (.ireturn, 1) := by decide +kernel
theorem dM_codeAt_0 : decode mM_codeAt.2.1 0 = .ok (.aload_n 0, 1) := by decide +kernel
theorem dM_codeAt_1 : decode mM_codeAt.2.1 1 = .ok (.getfield 85, 3) := by decide +kernel
theorem dM_codeAt_4 : decode mM_codeAt.2.1 4 = .ok (.iload_n 2, 1) := by decide +kernel
theorem dM_codeAt_5 : decode mM_codeAt.2.1 5 = .ok (.if_icmp .ge 17, 3) := by decide +kernel
theorem dM_codeAt_8 : decode mM_codeAt.2.1 8 = .ok (.aload_n 0, 1) := by decide +kernel
theorem dM_codeAt_9 : decode mM_codeAt.2.1 9 = .ok (.getfield 59, 3) := by decide +kernel
theorem dM_codeAt_12 : decode mM_codeAt.2.1 12 = .ok (.iload_n 1, 1) := by decide +kernel
theorem dM_codeAt_13 : decode mM_codeAt.2.1 13 = .ok (.aload_n 0, 1) := by decide +kernel
theorem dM_codeAt_14 : decode mM_codeAt.2.1 14 = .ok (.getfield 85, 3) := by decide +kernel
theorem dM_codeAt_17 : decode mM_codeAt.2.1 17 = .ok (.iadd, 1) := by decide +kernel
theorem dM_codeAt_18 : decode mM_codeAt.2.1 18 = .ok (.iaload, 1) := by decide +kernel
theorem dM_codeAt_19 : decode mM_codeAt.2.1 19 = .ok (.goto 5, 3) := by decide +kernel
theorem dM_codeAt_22 : decode mM_codeAt.2.1 22 = .ok (.bipush (-9), 2) := by decide +kernel
theorem dM_codeAt_24 : decode mM_codeAt.2.1 24 = .ok (.ireturn, 1) := by decide +kernel
theorem dM_copy_0 : decode mM_copy.2.1 0 = .ok (.iload_n 1, 1) := by decide +kernel
theorem dM_copy_1 : decode mM_copy.2.1 1 = .ok (.invokestatic 123, 3) := by decide +kernel
theorem dM_copy_4 : decode mM_copy.2.1 4 = .ok (.ifCond .ne 10, 3) := by decide +kernel
theorem dM_copy_7 : decode mM_copy.2.1 7 = .ok (.iload_n 3, 1) := by decide +kernel
theorem dM_copy_8 : decode mM_copy.2.1 8 = .ok (.invokestatic 123, 3) := by decide +kernel
theorem dM_copy_11 : decode mM_copy.2.1 11 = .ok (.ifCond .eq 9, 3) := by decide +kernel
theorem dM_copy_14 : decode mM_copy.2.1 14 = .ok (.aload_n 0, 1) := by decide +kernel
theorem dM_copy_15 : decode mM_copy.2.1 15 = .ok (.iconst (-1), 1) := by decide +kernel
theorem dM_copy_16 : decode mM_copy.2.1 16 = .ok (.invokevirtual 127, 3) := by decide +kernel
theorem dM_copy_19 : decode mM_copy.2.1 19 = .ok (.ireturn, 1) := by decide +kernel
theorem dM_copy_20 : decode mM_copy.2.1 20 = .ok (.aload_n 0, 1) := by decide +kernel
theorem dM_copy_21 : decode mM_copy.2.1 21 = .ok (.getfield 53, 3) := by decide +kernel
theorem dM_copy_24 : decode mM_copy.2.1 24 = .ok (.iload_n 1, 1) := by decide +kernel
theorem dM_copy_25 : decode mM_copy.2.1 25 = .ok (.iaload, 1) := by decide +kernel
theorem dM_copy_26 : decode mM_copy.2.1 26 = .ok (.ifCond .lt 12, 3) := by decide +kernel
theorem dM_copy_29 : decode mM_copy.2.1 29 = .ok (.aload_n 0, 1) := by decide +kernel
theorem dM_copy_30 : decode mM_copy.2.1 30 = .ok (.getfield 53, 3) := by decide +kernel
theorem dM_copy_33 : decode mM_copy.2.1 33 = .ok (.iload_n 3, 1) := by decide +kernel
theorem dM_copy_34 : decode mM_copy.2.1 34 = .ok (.iaload, 1) := by decide +kernel
theorem dM_copy_35 : decode mM_copy.2.1 35 = .ok (.ifCond .ge 9, 3) := by decide +kernel
theorem dM_copy_38 : decode mM_copy.2.1 38 = .ok (.aload_n 0, 1) := by decide +kernel
theorem dM_copy_39 : decode mM_copy.2.1 39 = .ok (.iconst 1, 1) := by decide +kernel
theorem dM_copy_40 : decode mM_copy.2.1 40 = .ok (.invokevirtual 115, 3) := by decide +kernel
theorem dM_copy_43 : decode mM_copy.2.1 43 = .ok (.ireturn, 1) := by decide +kernel
theorem dM_copy_44 : decode mM_copy.2.1 44 = .ok (.aload_n 0, 1) := by decide +kernel
theorem dM_copy_45 : decode mM_copy.2.1 45 = .ok (.getfield 56, 3) := by decide +kernel
theorem dM_copy_48 : decode mM_copy.2.1 48 = .ok (.iload_n 1, 1) := by decide +kernel
theorem dM_copy_49 : decode mM_copy.2.1 49 = .ok (.iaload, 1) := by decide +kernel
theorem dM_copy_50 : decode mM_copy.2.1 50 = .ok (.aload_n 0, 1) := by decide +kernel
theorem dM_copy_51 : decode mM_copy.2.1 51 = .ok (.getfield 56, 3) := by decide +kernel
theorem dM_copy_54 : decode mM_copy.2.1 54 = .ok (.iload_n 3, 1) := by decide +kernel
theorem dM_copy_55 : decode mM_copy.2.1 55 = .ok (.iaload, 1) := by decide +kernel
theorem dM_copy_56 : decode mM_copy.2.1 56 = .ok (.if_icmp .eq 9, 3) := by decide +kernel
theorem dM_copy_59 : decode mM_copy.2.1 59 = .ok (.aload_n 0, 1) := by decide +kernel
theorem dM_copy_60 : decode mM_copy.2.1 60 = .ok (.iconst 2, 1) := by decide +kernel
theorem dM_copy_61 : decode mM_copy.2.1 61 = .ok (.invokevirtual 115, 3) := by decide +kernel
theorem dM_copy_64 : decode mM_copy.2.1 64 = .ok (.ireturn, 1) := by decide +kernel
theorem dM_copy_65 : decode mM_copy.2.1 65 = .ok (.iload_n 2, 1) := by decide +kernel
theorem dM_copy_66 : decode mM_copy.2.1 66 = .ok (.iload 5, 2) := by decide +kernel
theorem dM_copy_68 : decode mM_copy.2.1 68 = .ok (.i2l, 1) := by decide +kernel
theorem dM_copy_69 : decode mM_copy.2.1 69 = .ok (.aload_n 0, 1) := by decide +kernel
theorem dM_copy_70 : decode mM_copy.2.1 70 = .ok (.getfield 53, 3) := by decide +kernel
theorem dM_copy_73 : decode mM_copy.2.1 73 = .ok (.iload_n 1, 1) := by decide +kernel
theorem dM_copy_74 : decode mM_copy.2.1 74 = .ok (.iaload, 1) := by decide +kernel
theorem dM_copy_75 : decode mM_copy.2.1 75 = .ok (.invokestatic 119, 3) := by decide +kernel
theorem dM_copy_78 : decode mM_copy.2.1 78 = .ok (.ifCond .ne 20, 3) := by decide +kernel
theorem dM_copy_81 : decode mM_copy.2.1 81 = .ok (.iload 4, 2) := by decide +kernel
theorem dM_copy_83 : decode mM_copy.2.1 83 = .ok (.iload 5, 2) := by decide +kernel
theorem dM_copy_85 : decode mM_copy.2.1 85 = .ok (.i2l, 1) := by decide +kernel
theorem dM_copy_86 : decode mM_copy.2.1 86 = .ok (.aload_n 0, 1) := by decide +kernel
theorem dM_copy_87 : decode mM_copy.2.1 87 = .ok (.getfield 53, 3) := by decide +kernel
theorem dM_copy_90 : decode mM_copy.2.1 90 = .ok (.iload_n 3, 1) := by decide +kernel
theorem dM_copy_91 : decode mM_copy.2.1 91 = .ok (.iaload, 1) := by decide +kernel
theorem dM_copy_92 : decode mM_copy.2.1 92 = .ok (.invokestatic 119, 3) := by decide +kernel
theorem dM_copy_95 : decode mM_copy.2.1 95 = .ok (.ifCond .eq 9, 3) := by decide +kernel
theorem dM_copy_98 : decode mM_copy.2.1 98 = .ok (.aload_n 0, 1) := by decide +kernel
theorem dM_copy_99 : decode mM_copy.2.1 99 = .ok (.iconst 3, 1) := by decide +kernel
theorem dM_copy_100 : decode mM_copy.2.1 100 = .ok (.invokevirtual 115, 3) := by decide +kernel
theorem dM_copy_103 : decode mM_copy.2.1 103 = .ok (.ireturn, 1) := by decide +kernel
theorem dM_copy_104 : decode mM_copy.2.1 104 = .ok (.iconst 0, 1) := by decide +kernel
theorem dM_copy_105 : decode mM_copy.2.1 105 = .ok (.istore 6, 2) := by decide +kernel
theorem dM_copy_107 : decode mM_copy.2.1 107 = .ok (.iload 6, 2) := by decide +kernel
theorem dM_copy_109 : decode mM_copy.2.1 109 = .ok (.iload 5, 2) := by decide +kernel
theorem dM_copy_111 : decode mM_copy.2.1 111 = .ok (.if_icmp .ge 30, 3) := by decide +kernel
theorem dM_copy_114 : decode mM_copy.2.1 114 = .ok (.aload_n 0, 1) := by decide +kernel
theorem dM_copy_115 : decode mM_copy.2.1 115 = .ok (.getfield 62, 3) := by decide +kernel
theorem dM_copy_118 : decode mM_copy.2.1 118 = .ok (.iload 6, 2) := by decide +kernel
theorem dM_copy_120 : decode mM_copy.2.1 120 = .ok (.aload_n 0, 1) := by decide +kernel
theorem dM_copy_121 : decode mM_copy.2.1 121 = .ok (.getfield 59, 3) := by decide +kernel
theorem dM_copy_124 : decode mM_copy.2.1 124 = .ok (.bipush 60, 2) := by decide +kernel
theorem dM_copy_126 : decode mM_copy.2.1 126 = .ok (.iload_n 1, 1) := by decide +kernel
theorem dM_copy_127 : decode mM_copy.2.1 127 = .ok (.imul, 1) := by decide +kernel
theorem dM_copy_128 : decode mM_copy.2.1 128 = .ok (.iload_n 2, 1) := by decide +kernel
theorem dM_copy_129 : decode mM_copy.2.1 129 = .ok (.iadd, 1) := by decide +kernel
theorem dM_copy_130 : decode mM_copy.2.1 130 = .ok (.iload 6, 2) := by decide +kernel
theorem dM_copy_132 : decode mM_copy.2.1 132 = .ok (.iadd, 1) := by decide +kernel
theorem dM_copy_133 : decode mM_copy.2.1 133 = .ok (.iaload, 1) := by decide +kernel
theorem dM_copy_134 : decode mM_copy.2.1 134 = .ok (.iastore, 1) := by decide +kernel
theorem dM_copy_135 : decode mM_copy.2.1 135 = .ok (.iinc 6 1, 3) := by decide +kernel
theorem dM_copy_138 : decode mM_copy.2.1 138 = .ok (.goto (-31), 3) := by decide +kernel
theorem dM_copy_141 : decode mM_copy.2.1 141 = .ok (.iconst 0, 1) := by decide +kernel
theorem dM_copy_142 : decode mM_copy.2.1 142 = .ok (.istore 6, 2) := by decide +kernel
theorem dM_copy_144 : decode mM_copy.2.1 144 = .ok (.iload 6, 2) := by decide +kernel
theorem dM_copy_146 : decode mM_copy.2.1 146 = .ok (.iload 5, 2) := by decide +kernel
theorem dM_copy_148 : decode mM_copy.2.1 148 = .ok (.if_icmp .ge 31, 3) := by decide +kernel
theorem dM_copy_151 : decode mM_copy.2.1 151 = .ok (.aload_n 0, 1) := by decide +kernel
theorem dM_copy_152 : decode mM_copy.2.1 152 = .ok (.getfield 59, 3) := by decide +kernel
theorem dM_copy_155 : decode mM_copy.2.1 155 = .ok (.bipush 60, 2) := by decide +kernel
theorem dM_copy_157 : decode mM_copy.2.1 157 = .ok (.iload_n 3, 1) := by decide +kernel
theorem dM_copy_158 : decode mM_copy.2.1 158 = .ok (.imul, 1) := by decide +kernel
theorem dM_copy_159 : decode mM_copy.2.1 159 = .ok (.iload 4, 2) := by decide +kernel
theorem dM_copy_161 : decode mM_copy.2.1 161 = .ok (.iadd, 1) := by decide +kernel
theorem dM_copy_162 : decode mM_copy.2.1 162 = .ok (.iload 6, 2) := by decide +kernel
theorem dM_copy_164 : decode mM_copy.2.1 164 = .ok (.iadd, 1) := by decide +kernel
theorem dM_copy_165 : decode mM_copy.2.1 165 = .ok (.aload_n 0, 1) := by decide +kernel
theorem dM_copy_166 : decode mM_copy.2.1 166 = .ok (.getfield 62, 3) := by decide +kernel
theorem dM_copy_169 : decode mM_copy.2.1 169 = .ok (.iload 6, 2) := by decide +kernel
theorem dM_copy_171 : decode mM_copy.2.1 171 = .ok (.iaload, 1) := by decide +kernel
theorem dM_copy_172 : decode mM_copy.2.1 172 = .ok (.iastore, 1) := by decide +kernel
theorem dM_copy_173 : decode mM_copy.2.1 173 = .ok (.iinc 6 1, 3) := by decide +kernel
theorem dM_copy_176 : decode mM_copy.2.1 176 = .ok (.goto (-32), 3) := by decide +kernel
theorem dM_copy_179 : decode mM_copy.2.1 179 = .ok (.aload_n 0, 1) := by decide +kernel
theorem dM_copy_180 : decode mM_copy.2.1 180 = .ok (.iload 5, 2) := by decide +kernel
theorem dM_copy_182 : decode mM_copy.2.1 182 = .ok (.invokevirtual 127, 3) := by decide +kernel
theorem dM_copy_185 : decode mM_copy.2.1 185 = .ok (.ireturn, 1) := by decide +kernel
theorem dM_doesLose_0 : decode mM_doesLose.2.1 0 = .ok (.aload_n 0, 1) := by decide +kernel
theorem dM_doesLose_1 : decode mM_doesLose.2.1 1 = .ok (.iload_n 1, 1) := by decide +kernel
theorem dM_doesLose_2 : decode mM_doesLose.2.1 2 = .ok (.iload_n 2, 1) := by decide +kernel
theorem dM_doesLose_3 : decode mM_doesLose.2.1 3 = .ok (.invokevirtual 148, 3) := by decide +kernel
theorem dM_doesLose_6 : decode mM_doesLose.2.1 6 = .ok (.aload_n 0, 1) := by decide +kernel
theorem dM_doesLose_7 : decode mM_doesLose.2.1 7 = .ok (.getfield 142, 3) := by decide +kernel
theorem dM_doesLose_10 : decode mM_doesLose.2.1 10 = .ok (.if_icmp .lt 7, 3) := by decide +kernel
theorem dM_doesLose_13 : decode mM_doesLose.2.1 13 = .ok (.iconst 1, 1) := by decide +kernel
theorem dM_doesLose_14 : decode mM_doesLose.2.1 14 = .ok (.goto 4, 3) := by decide +kernel
theorem dM_doesLose_17 : decode mM_doesLose.2.1 17 = .ok (.iconst 0, 1) := by decide +kernel
theorem dM_doesLose_18 : decode mM_doesLose.2.1 18 = .ok (.ireturn, 1) := by decide +kernel
theorem dM_dull_0 : decode mM_dull.2.1 0 = .ok (.aload_n 0, 1) := by decide +kernel
theorem dM_dull_1 : decode mM_dull.2.1 1 = .ok (.iload_n 1, 1) := by decide +kernel
theorem dM_dull_2 : decode mM_dull.2.1 2 = .ok (.invokevirtual 154, 3) := by decide +kernel
theorem dM_dull_5 : decode mM_dull.2.1 5 = .ok (.ifCond .eq 5, 3) := by decide +kernel
theorem dM_dull_8 : decode mM_dull.2.1 8 = .ok (.iconst (-1), 1) := by decide +kernel
theorem dM_dull_9 : decode mM_dull.2.1 9 = .ok (.ireturn, 1) := by decide +kernel
theorem dM_dull_10 : decode mM_dull.2.1 10 = .ok (.bipush (-9), 2) := by decide +kernel
theorem dM_dull_12 : decode mM_dull.2.1 12 = .ok (.istore_n 2, 1) := by decide +kernel
theorem dM_dull_13 : decode mM_dull.2.1 13 = .ok (.iconst 0, 1) := by decide +kernel
theorem dM_dull_14 : decode mM_dull.2.1 14 = .ok (.istore_n 3, 1) := by decide +kernel
theorem dM_dull_15 : decode mM_dull.2.1 15 = .ok (.iload_n 3, 1) := by decide +kernel
theorem dM_dull_16 : decode mM_dull.2.1 16 = .ok (.aload_n 0, 1) := by decide +kernel
theorem dM_dull_17 : decode mM_dull.2.1 17 = .ok (.getfield 82, 3) := by decide +kernel
theorem dM_dull_20 : decode mM_dull.2.1 20 = .ok (.if_icmp .ge 55, 3) := by decide +kernel
theorem dM_dull_23 : decode mM_dull.2.1 23 = .ok (.aload_n 0, 1) := by decide +kernel
theorem dM_dull_24 : decode mM_dull.2.1 24 = .ok (.iload_n 1, 1) := by decide +kernel
theorem dM_dull_25 : decode mM_dull.2.1 25 = .ok (.iload_n 3, 1) := by decide +kernel
theorem dM_dull_26 : decode mM_dull.2.1 26 = .ok (.invokevirtual 151, 3) := by decide +kernel
theorem dM_dull_29 : decode mM_dull.2.1 29 = .ok (.ifCond .ne 26, 3) := by decide +kernel
theorem dM_dull_32 : decode mM_dull.2.1 32 = .ok (.iload_n 2, 1) := by decide +kernel
theorem dM_dull_33 : decode mM_dull.2.1 33 = .ok (.ifCond .lt 18, 3) := by decide +kernel
theorem dM_dull_36 : decode mM_dull.2.1 36 = .ok (.aload_n 0, 1) := by decide +kernel
theorem dM_dull_37 : decode mM_dull.2.1 37 = .ok (.iload_n 1, 1) := by decide +kernel
theorem dM_dull_38 : decode mM_dull.2.1 38 = .ok (.iload_n 3, 1) := by decide +kernel
theorem dM_dull_39 : decode mM_dull.2.1 39 = .ok (.invokevirtual 148, 3) := by decide +kernel
theorem dM_dull_42 : decode mM_dull.2.1 42 = .ok (.aload_n 0, 1) := by decide +kernel
theorem dM_dull_43 : decode mM_dull.2.1 43 = .ok (.iload_n 1, 1) := by decide +kernel
theorem dM_dull_44 : decode mM_dull.2.1 44 = .ok (.iload_n 2, 1) := by decide +kernel
theorem dM_dull_45 : decode mM_dull.2.1 45 = .ok (.invokevirtual 148, 3) := by decide +kernel
theorem dM_dull_48 : decode mM_dull.2.1 48 = .ok (.if_icmp .le 7, 3) := by decide +kernel
theorem dM_dull_51 : decode mM_dull.2.1 51 = .ok (.iconst 1, 1) := by decide +kernel
theorem dM_dull_52 : decode mM_dull.2.1 52 = .ok (.goto 4, 3) := by decide +kernel
theorem dM_dull_55 : decode mM_dull.2.1 55 = .ok (.iconst 0, 1) := by decide +kernel
theorem dM_dull_56 : decode mM_dull.2.1 56 = .ok (.istore 4, 2) := by decide +kernel
theorem dM_dull_58 : decode mM_dull.2.1 58 = .ok (.iload 4, 2) := by decide +kernel
theorem dM_dull_60 : decode mM_dull.2.1 60 = .ok (.ifCond .eq 7, 3) := by decide +kernel
theorem dM_dull_63 : decode mM_dull.2.1 63 = .ok (.iload_n 3, 1) := by decide +kernel
theorem dM_dull_64 : decode mM_dull.2.1 64 = .ok (.goto 4, 3) := by decide +kernel
theorem dM_dull_67 : decode mM_dull.2.1 67 = .ok (.iload_n 2, 1) := by decide +kernel
theorem dM_dull_68 : decode mM_dull.2.1 68 = .ok (.istore_n 2, 1) := by decide +kernel
theorem dM_dull_69 : decode mM_dull.2.1 69 = .ok (.iinc 3 1, 3) := by decide +kernel
theorem dM_dull_72 : decode mM_dull.2.1 72 = .ok (.goto (-57), 3) := by decide +kernel
theorem dM_dull_75 : decode mM_dull.2.1 75 = .ok (.iload_n 2, 1) := by decide +kernel
theorem dM_dull_76 : decode mM_dull.2.1 76 = .ok (.ireturn, 1) := by decide +kernel
theorem dM_endingWith_0 : decode mM_endingWith.2.1 0 = .ok (.iconst 0, 1) := by decide +kernel
theorem dM_endingWith_1 : decode mM_endingWith.2.1 1 = .ok (.istore 5, 2) := by decide +kernel
theorem dM_endingWith_3 : decode mM_endingWith.2.1 3 = .ok (.iconst 0, 1) := by decide +kernel
theorem dM_endingWith_4 : decode mM_endingWith.2.1 4 = .ok (.istore 6, 2) := by decide +kernel
theorem dM_endingWith_6 : decode mM_endingWith.2.1 6 = .ok (.iload 6, 2) := by decide +kernel
theorem dM_endingWith_8 : decode mM_endingWith.2.1 8 = .ok (.aload_n 0, 1) := by decide +kernel
theorem dM_endingWith_9 : decode mM_endingWith.2.1 9 = .ok (.getfield 75, 3) := by decide +kernel
theorem dM_endingWith_12 : decode mM_endingWith.2.1 12 = .ok (.if_icmp .ge 46, 3) := by decide +kernel
theorem dM_endingWith_15 : decode mM_endingWith.2.1 15 = .ok (.aload_n 0, 1) := by decide +kernel
theorem dM_endingWith_16 : decode mM_endingWith.2.1 16 = .ok (.iload 6, 2) := by decide +kernel
theorem dM_endingWith_18 : decode mM_endingWith.2.1 18 = .ok (.iload_n 1, 1) := by decide +kernel
theorem dM_endingWith_19 : decode mM_endingWith.2.1 19 = .ok (.iload_n 2, 1) := by decide +kernel
theorem dM_endingWith_20 : decode mM_endingWith.2.1 20 = .ok (.invokevirtual 189, 3) := by decide +kernel
theorem dM_endingWith_23 : decode mM_endingWith.2.1 23 = .ok (.iload 5, 2) := by decide +kernel
theorem dM_endingWith_25 : decode mM_endingWith.2.1 25 = .ok (.aload_n 0, 1) := by decide +kernel
theorem dM_endingWith_26 : decode mM_endingWith.2.1 26 = .ok (.getfield 173, 3) := by decide +kernel
theorem dM_endingWith_29 : decode mM_endingWith.2.1 29 = .ok (.i2l, 1) := by decide +kernel
theorem dM_endingWith_30 : decode mM_endingWith.2.1 30 = .ok (.iload_n 3, 1) := by decide +kernel
theorem dM_endingWith_31 : decode mM_endingWith.2.1 31 = .ok (.i2l, 1) := by decide +kernel
theorem dM_endingWith_32 : decode mM_endingWith.2.1 32 = .ok (.iload 4, 2) := by decide +kernel
theorem dM_endingWith_34 : decode mM_endingWith.2.1 34 = .ok (.i2l, 1) := by decide +kernel
theorem dM_endingWith_35 : decode mM_endingWith.2.1 35 = .ok (.invokestatic 78, 3) := by decide +kernel
theorem dM_endingWith_38 : decode mM_endingWith.2.1 38 = .ok (.ifCond .eq 10, 3) := by decide +kernel
theorem dM_endingWith_41 : decode mM_endingWith.2.1 41 = .ok (.iconst 1, 1) := by decide +kernel
theorem dM_endingWith_42 : decode mM_endingWith.2.1 42 = .ok (.iload 6, 2) := by decide +kernel
theorem dM_endingWith_44 : decode mM_endingWith.2.1 44 = .ok (.ishl, 1) := by decide +kernel
theorem dM_endingWith_45 : decode mM_endingWith.2.1 45 = .ok (.goto 4, 3) := by decide +kernel
theorem dM_endingWith_48 : decode mM_endingWith.2.1 48 = .ok (.iconst 0, 1) := by decide +kernel
theorem dM_endingWith_49 : decode mM_endingWith.2.1 49 = .ok (.ior, 1) := by decide +kernel
theorem dM_endingWith_50 : decode mM_endingWith.2.1 50 = .ok (.istore 5, 2) := by decide +kernel
theorem dM_endingWith_52 : decode mM_endingWith.2.1 52 = .ok (.iinc 6 1, 3) := by decide +kernel
theorem dM_endingWith_55 : decode mM_endingWith.2.1 55 = .ok (.goto (-49), 3) := by decide +kernel
theorem dM_endingWith_58 : decode mM_endingWith.2.1 58 = .ok (.iload 5, 2) := by decide +kernel
theorem dM_endingWith_60 : decode mM_endingWith.2.1 60 = .ok (.ireturn, 1) := by decide +kernel
theorem dM_everybody_0 : decode mM_everybody.2.1 0 = .ok (.iconst 1, 1) := by decide +kernel
theorem dM_everybody_1 : decode mM_everybody.2.1 1 = .ok (.aload_n 0, 1) := by decide +kernel
theorem dM_everybody_2 : decode mM_everybody.2.1 2 = .ok (.getfield 75, 3) := by decide +kernel
theorem dM_everybody_5 : decode mM_everybody.2.1 5 = .ok (.ishl, 1) := by decide +kernel
theorem dM_everybody_6 : decode mM_everybody.2.1 6 = .ok (.iconst 1, 1) := by decide +kernel
theorem dM_everybody_7 : decode mM_everybody.2.1 7 = .ok (.isub, 1) := by decide +kernel
theorem dM_everybody_8 : decode mM_everybody.2.1 8 = .ok (.ireturn, 1) := by decide +kernel
theorem dM_failed_0 : decode mM_failed.2.1 0 = .ok (.aload_n 0, 1) := by decide +kernel
theorem dM_failed_1 : decode mM_failed.2.1 1 = .ok (.iload_n 1, 1) := by decide +kernel
theorem dM_failed_2 : decode mM_failed.2.1 2 = .ok (.putfield 67, 3) := by decide +kernel
theorem dM_failed_5 : decode mM_failed.2.1 5 = .ok (.bipush (-10), 2) := by decide +kernel
theorem dM_failed_7 : decode mM_failed.2.1 7 = .ok (.iload_n 1, 1) := by decide +kernel
theorem dM_failed_8 : decode mM_failed.2.1 8 = .ok (.isub, 1) := by decide +kernel
theorem dM_failed_9 : decode mM_failed.2.1 9 = .ok (.ireturn, 1) := by decide +kernel
theorem dM_failedLong_0 : decode mM_failedLong.2.1 0 = .ok (.aload_n 0, 1) := by decide +kernel
theorem dM_failedLong_1 : decode mM_failedLong.2.1 1 = .ok (.iload_n 1, 1) := by decide +kernel
theorem dM_failedLong_2 : decode mM_failedLong.2.1 2 = .ok (.putfield 67, 3) := by decide +kernel
theorem dM_failedLong_5 : decode mM_failedLong.2.1 5 = .ok (.invokestatic 71, 3) := by decide +kernel
theorem dM_failedLong_8 : decode mM_failedLong.2.1 8 = .ok (.lreturn, 1) := by decide +kernel
theorem dM_fault_0 : decode mM_fault.2.1 0 = .ok (.aload_n 0, 1) := by decide +kernel
theorem dM_fault_1 : decode mM_fault.2.1 1 = .ok (.getfield 67, 3) := by decide +kernel
theorem dM_fault_4 : decode mM_fault.2.1 4 = .ok (.ireturn, 1) := by decide +kernel
theorem dM_fewest_0 : decode mM_fewest.2.1 0 = .ok (.iload_n 1, 1) := by decide +kernel
theorem dM_fewest_1 : decode mM_fewest.2.1 1 = .ok (.iconst (-1), 1) := by decide +kernel
theorem dM_fewest_2 : decode mM_fewest.2.1 2 = .ok (.if_icmp .ge 5, 3) := by decide +kernel
theorem dM_fewest_5 : decode mM_fewest.2.1 5 = .ok (.iconst (-1), 1) := by decide +kernel
theorem dM_fewest_6 : decode mM_fewest.2.1 6 = .ok (.ireturn, 1) := by decide +kernel
theorem dM_fewest_7 : decode mM_fewest.2.1 7 = .ok (.aload_n 0, 1) := by decide +kernel
theorem dM_fewest_8 : decode mM_fewest.2.1 8 = .ok (.getfield 75, 3) := by decide +kernel
theorem dM_fewest_11 : decode mM_fewest.2.1 11 = .ok (.ifCond .ne 6, 3) := by decide +kernel
theorem dM_fewest_14 : decode mM_fewest.2.1 14 = .ok (.bipush (-3), 2) := by decide +kernel
theorem dM_fewest_16 : decode mM_fewest.2.1 16 = .ok (.ireturn, 1) := by decide +kernel
theorem dM_fewest_17 : decode mM_fewest.2.1 17 = .ok (.iconst 1, 1) := by decide +kernel
theorem dM_fewest_18 : decode mM_fewest.2.1 18 = .ok (.istore_n 2, 1) := by decide +kernel
theorem dM_fewest_19 : decode mM_fewest.2.1 19 = .ok (.iconst 0, 1) := by decide +kernel
theorem dM_fewest_20 : decode mM_fewest.2.1 20 = .ok (.istore_n 3, 1) := by decide +kernel
theorem dM_fewest_21 : decode mM_fewest.2.1 21 = .ok (.iload_n 3, 1) := by decide +kernel
theorem dM_fewest_22 : decode mM_fewest.2.1 22 = .ok (.aload_n 0, 1) := by decide +kernel
theorem dM_fewest_23 : decode mM_fewest.2.1 23 = .ok (.getfield 75, 3) := by decide +kernel
theorem dM_fewest_26 : decode mM_fewest.2.1 26 = .ok (.if_icmp .ge 16, 3) := by decide +kernel
theorem dM_fewest_29 : decode mM_fewest.2.1 29 = .ok (.iload_n 2, 1) := by decide +kernel
theorem dM_fewest_30 : decode mM_fewest.2.1 30 = .ok (.aload_n 0, 1) := by decide +kernel
theorem dM_fewest_31 : decode mM_fewest.2.1 31 = .ok (.getfield 82, 3) := by decide +kernel
theorem dM_fewest_34 : decode mM_fewest.2.1 34 = .ok (.imul, 1) := by decide +kernel
theorem dM_fewest_35 : decode mM_fewest.2.1 35 = .ok (.istore_n 2, 1) := by decide +kernel
theorem dM_fewest_36 : decode mM_fewest.2.1 36 = .ok (.iinc 3 1, 3) := by decide +kernel
theorem dM_fewest_39 : decode mM_fewest.2.1 39 = .ok (.goto (-18), 3) := by decide +kernel
theorem dM_fewest_42 : decode mM_fewest.2.1 42 = .ok (.bipush (-9), 2) := by decide +kernel
theorem dM_fewest_44 : decode mM_fewest.2.1 44 = .ok (.istore_n 3, 1) := by decide +kernel
theorem dM_fewest_45 : decode mM_fewest.2.1 45 = .ok (.iconst 0, 1) := by decide +kernel
theorem dM_fewest_46 : decode mM_fewest.2.1 46 = .ok (.istore 4, 2) := by decide +kernel
theorem dM_fewest_48 : decode mM_fewest.2.1 48 = .ok (.iconst 0, 1) := by decide +kernel
theorem dM_fewest_49 : decode mM_fewest.2.1 49 = .ok (.istore 5, 2) := by decide +kernel
theorem dM_fewest_51 : decode mM_fewest.2.1 51 = .ok (.iconst 0, 1) := by decide +kernel
theorem dM_fewest_52 : decode mM_fewest.2.1 52 = .ok (.istore 6, 2) := by decide +kernel
theorem dM_fewest_54 : decode mM_fewest.2.1 54 = .ok (.iload 6, 2) := by decide +kernel
theorem dM_fewest_56 : decode mM_fewest.2.1 56 = .ok (.iload_n 2, 1) := by decide +kernel
theorem dM_fewest_57 : decode mM_fewest.2.1 57 = .ok (.if_icmp .ge 82, 3) := by decide +kernel
theorem dM_fewest_60 : decode mM_fewest.2.1 60 = .ok (.aload_n 0, 1) := by decide +kernel
theorem dM_fewest_61 : decode mM_fewest.2.1 61 = .ok (.iload 6, 2) := by decide +kernel
theorem dM_fewest_63 : decode mM_fewest.2.1 63 = .ok (.invokevirtual 212, 3) := by decide +kernel
theorem dM_fewest_66 : decode mM_fewest.2.1 66 = .ok (.iload_n 3, 1) := by decide +kernel
theorem dM_fewest_67 : decode mM_fewest.2.1 67 = .ok (.ifCond .lt 30, 3) := by decide +kernel
theorem dM_fewest_70 : decode mM_fewest.2.1 70 = .ok (.aload_n 0, 1) := by decide +kernel
theorem dM_fewest_71 : decode mM_fewest.2.1 71 = .ok (.getfield 206, 3) := by decide +kernel
theorem dM_fewest_74 : decode mM_fewest.2.1 74 = .ok (.iload 4, 2) := by decide +kernel
theorem dM_fewest_76 : decode mM_fewest.2.1 76 = .ok (.if_icmp .lt 21, 3) := by decide +kernel
theorem dM_fewest_79 : decode mM_fewest.2.1 79 = .ok (.aload_n 0, 1) := by decide +kernel
theorem dM_fewest_80 : decode mM_fewest.2.1 80 = .ok (.getfield 206, 3) := by decide +kernel
theorem dM_fewest_83 : decode mM_fewest.2.1 83 = .ok (.iload 4, 2) := by decide +kernel
theorem dM_fewest_85 : decode mM_fewest.2.1 85 = .ok (.if_icmp .ne 16, 3) := by decide +kernel
theorem dM_fewest_88 : decode mM_fewest.2.1 88 = .ok (.aload_n 0, 1) := by decide +kernel
theorem dM_fewest_89 : decode mM_fewest.2.1 89 = .ok (.getfield 209, 3) := by decide +kernel
theorem dM_fewest_92 : decode mM_fewest.2.1 92 = .ok (.iload 5, 2) := by decide +kernel
theorem dM_fewest_94 : decode mM_fewest.2.1 94 = .ok (.if_icmp .le 7, 3) := by decide +kernel
theorem dM_fewest_97 : decode mM_fewest.2.1 97 = .ok (.iconst 1, 1) := by decide +kernel
theorem dM_fewest_98 : decode mM_fewest.2.1 98 = .ok (.goto 4, 3) := by decide +kernel
theorem dM_fewest_101 : decode mM_fewest.2.1 101 = .ok (.iconst 0, 1) := by decide +kernel
theorem dM_fewest_102 : decode mM_fewest.2.1 102 = .ok (.istore 7, 2) := by decide +kernel
theorem dM_fewest_104 : decode mM_fewest.2.1 104 = .ok (.aload_n 0, 1) := by decide +kernel
theorem dM_fewest_105 : decode mM_fewest.2.1 105 = .ok (.getfield 203, 3) := by decide +kernel
theorem dM_fewest_108 : decode mM_fewest.2.1 108 = .ok (.bipush 12, 2) := by decide +kernel
theorem dM_fewest_110 : decode mM_fewest.2.1 110 = .ok (.if_icmp .gt 23, 3) := by decide +kernel
theorem dM_fewest_113 : decode mM_fewest.2.1 113 = .ok (.iload 7, 2) := by decide +kernel
theorem dM_fewest_115 : decode mM_fewest.2.1 115 = .ok (.ifCond .eq 18, 3) := by decide +kernel
theorem dM_fewest_118 : decode mM_fewest.2.1 118 = .ok (.iload 6, 2) := by decide +kernel
theorem dM_fewest_120 : decode mM_fewest.2.1 120 = .ok (.istore_n 3, 1) := by decide +kernel
theorem dM_fewest_121 : decode mM_fewest.2.1 121 = .ok (.aload_n 0, 1) := by decide +kernel
theorem dM_fewest_122 : decode mM_fewest.2.1 122 = .ok (.getfield 206, 3) := by decide +kernel
theorem dM_fewest_125 : decode mM_fewest.2.1 125 = .ok (.istore 4, 2) := by decide +kernel
theorem dM_fewest_127 : decode mM_fewest.2.1 127 = .ok (.aload_n 0, 1) := by decide +kernel
theorem dM_fewest_128 : decode mM_fewest.2.1 128 = .ok (.getfield 209, 3) := by decide +kernel
theorem dM_fewest_131 : decode mM_fewest.2.1 131 = .ok (.istore 5, 2) := by decide +kernel
theorem dM_fewest_133 : decode mM_fewest.2.1 133 = .ok (.iinc 6 1, 3) := by decide +kernel
theorem dM_fewest_136 : decode mM_fewest.2.1 136 = .ok (.goto (-82), 3) := by decide +kernel
theorem dM_fewest_139 : decode mM_fewest.2.1 139 = .ok (.iload_n 3, 1) := by decide +kernel
theorem dM_fewest_140 : decode mM_fewest.2.1 140 = .ok (.ifCond .lt 11, 3) := by decide +kernel
theorem dM_fewest_143 : decode mM_fewest.2.1 143 = .ok (.iload_n 1, 1) := by decide +kernel
theorem dM_fewest_144 : decode mM_fewest.2.1 144 = .ok (.aload_n 0, 1) := by decide +kernel
theorem dM_fewest_145 : decode mM_fewest.2.1 145 = .ok (.getfield 75, 3) := by decide +kernel
theorem dM_fewest_148 : decode mM_fewest.2.1 148 = .ok (.if_icmp .lt 6, 3) := by decide +kernel
theorem dM_fewest_151 : decode mM_fewest.2.1 151 = .ok (.bipush (-9), 2) := by decide +kernel
theorem dM_fewest_153 : decode mM_fewest.2.1 153 = .ok (.ireturn, 1) := by decide +kernel
theorem dM_fewest_154 : decode mM_fewest.2.1 154 = .ok (.aload_n 0, 1) := by decide +kernel
theorem dM_fewest_155 : decode mM_fewest.2.1 155 = .ok (.iload_n 3, 1) := by decide +kernel
theorem dM_fewest_156 : decode mM_fewest.2.1 156 = .ok (.invokevirtual 212, 3) := by decide +kernel
theorem dM_fewest_159 : decode mM_fewest.2.1 159 = .ok (.iload_n 1, 1) := by decide +kernel
theorem dM_fewest_160 : decode mM_fewest.2.1 160 = .ok (.ifCond .ge 10, 3) := by decide +kernel
theorem dM_fewest_163 : decode mM_fewest.2.1 163 = .ok (.aload_n 0, 1) := by decide +kernel
theorem dM_fewest_164 : decode mM_fewest.2.1 164 = .ok (.getfield 206, 3) := by decide +kernel
theorem dM_fewest_167 : decode mM_fewest.2.1 167 = .ok (.goto 9, 3) := by decide +kernel
theorem dM_fewest_170 : decode mM_fewest.2.1 170 = .ok (.aload_n 0, 1) := by decide +kernel
theorem dM_fewest_171 : decode mM_fewest.2.1 171 = .ok (.getfield 40, 3) := by decide +kernel
theorem dM_fewest_174 : decode mM_fewest.2.1 174 = .ok (.iload_n 1, 1) := by decide +kernel
theorem dM_fewest_175 : decode mM_fewest.2.1 175 = .ok (.iaload, 1) := by decide +kernel
theorem dM_fewest_176 : decode mM_fewest.2.1 176 = .ok (.ireturn, 1) := by decide +kernel
theorem dM_figure_0 : decode mM_figure.2.1 0 = .ok (.aload_n 0, 1) := by decide +kernel
theorem dM_figure_1 : decode mM_figure.2.1 1 = .ok (.iload_n 1, 1) := by decide +kernel
theorem dM_figure_2 : decode mM_figure.2.1 2 = .ok (.iload_n 2, 1) := by decide +kernel
theorem dM_figure_3 : decode mM_figure.2.1 3 = .ok (.invokevirtual 88, 3) := by decide +kernel
theorem dM_figure_6 : decode mM_figure.2.1 6 = .ok (.bipush 48, 2) := by decide +kernel
theorem dM_figure_8 : decode mM_figure.2.1 8 = .ok (.isub, 1) := by decide +kernel
theorem dM_figure_9 : decode mM_figure.2.1 9 = .ok (.istore 5, 2) := by decide +kernel
theorem dM_figure_11 : decode mM_figure.2.1 11 = .ok (.iload 5, 2) := by decide +kernel
theorem dM_figure_13 : decode mM_figure.2.1 13 = .ok (.i2l, 1) := by decide +kernel
theorem dM_figure_14 : decode mM_figure.2.1 14 = .ok (.iload_n 3, 1) := by decide +kernel
theorem dM_figure_15 : decode mM_figure.2.1 15 = .ok (.i2l, 1) := by decide +kernel
theorem dM_figure_16 : decode mM_figure.2.1 16 = .ok (.iload 4, 2) := by decide +kernel
theorem dM_figure_18 : decode mM_figure.2.1 18 = .ok (.i2l, 1) := by decide +kernel
theorem dM_figure_19 : decode mM_figure.2.1 19 = .ok (.invokestatic 78, 3) := by decide +kernel
theorem dM_figure_22 : decode mM_figure.2.1 22 = .ok (.istore 6, 2) := by decide +kernel
theorem dM_figure_24 : decode mM_figure.2.1 24 = .ok (.aload_n 0, 1) := by decide +kernel
theorem dM_figure_25 : decode mM_figure.2.1 25 = .ok (.dup, 1) := by decide +kernel
theorem dM_figure_26 : decode mM_figure.2.1 26 = .ok (.getfield 85, 3) := by decide +kernel
theorem dM_figure_29 : decode mM_figure.2.1 29 = .ok (.iload 6, 2) := by decide +kernel
theorem dM_figure_31 : decode mM_figure.2.1 31 = .ok (.ifCond .eq 7, 3) := by decide +kernel
theorem dM_figure_34 : decode mM_figure.2.1 34 = .ok (.iconst 1, 1) := by decide +kernel
theorem dM_figure_35 : decode mM_figure.2.1 35 = .ok (.goto 4, 3) := by decide +kernel
theorem dM_figure_38 : decode mM_figure.2.1 38 = .ok (.iconst 0, 1) := by decide +kernel
theorem dM_figure_39 : decode mM_figure.2.1 39 = .ok (.iadd, 1) := by decide +kernel
theorem dM_figure_40 : decode mM_figure.2.1 40 = .ok (.putfield 85, 3) := by decide +kernel
theorem dM_figure_43 : decode mM_figure.2.1 43 = .ok (.iload 6, 2) := by decide +kernel
theorem dM_figure_45 : decode mM_figure.2.1 45 = .ok (.ifCond .eq 8, 3) := by decide +kernel
theorem dM_figure_48 : decode mM_figure.2.1 48 = .ok (.iload 5, 2) := by decide +kernel
theorem dM_figure_50 : decode mM_figure.2.1 50 = .ok (.goto 5, 3) := by decide +kernel
theorem dM_figure_53 : decode mM_figure.2.1 53 = .ok (.bipush (-9), 2) := by decide +kernel
theorem dM_figure_55 : decode mM_figure.2.1 55 = .ok (.ireturn, 1) := by decide +kernel
theorem dM_goSeason_0 : decode mM_goSeason.2.1 0 = .ok (.aload_n 0, 1) := by decide +kernel
theorem dM_goSeason_1 : decode mM_goSeason.2.1 1 = .ok (.bipush (-9), 2) := by decide +kernel
theorem dM_goSeason_3 : decode mM_goSeason.2.1 3 = .ok (.putfield 167, 3) := by decide +kernel
theorem dM_goSeason_6 : decode mM_goSeason.2.1 6 = .ok (.aload_n 0, 1) := by decide +kernel
theorem dM_goSeason_7 : decode mM_goSeason.2.1 7 = .ok (.bipush 12, 2) := by decide +kernel
theorem dM_goSeason_9 : decode mM_goSeason.2.1 9 = .ok (.putfield 170, 3) := by decide +kernel
theorem dM_goSeason_12 : decode mM_goSeason.2.1 12 = .ok (.aload_n 0, 1) := by decide +kernel
theorem dM_goSeason_13 : decode mM_goSeason.2.1 13 = .ok (.aload_n 0, 1) := by decide +kernel
theorem dM_goSeason_14 : decode mM_goSeason.2.1 14 = .ok (.getfield 139, 3) := by decide +kernel
theorem dM_goSeason_17 : decode mM_goSeason.2.1 17 = .ok (.putfield 173, 3) := by decide +kernel
theorem dM_goSeason_20 : decode mM_goSeason.2.1 20 = .ok (.aload_n 0, 1) := by decide +kernel
theorem dM_goSeason_21 : decode mM_goSeason.2.1 21 = .ok (.bipush (-9), 2) := by decide +kernel
theorem dM_goSeason_23 : decode mM_goSeason.2.1 23 = .ok (.putfield 176, 3) := by decide +kernel
theorem dM_goSeason_26 : decode mM_goSeason.2.1 26 = .ok (.aload_n 0, 1) := by decide +kernel
theorem dM_goSeason_27 : decode mM_goSeason.2.1 27 = .ok (.iconst 0, 1) := by decide +kernel
theorem dM_goSeason_28 : decode mM_goSeason.2.1 28 = .ok (.putfield 179, 3) := by decide +kernel
theorem dM_goSeason_31 : decode mM_goSeason.2.1 31 = .ok (.iconst 0, 1) := by decide +kernel
theorem dM_goSeason_32 : decode mM_goSeason.2.1 32 = .ok (.istore 4, 2) := by decide +kernel
theorem dM_goSeason_34 : decode mM_goSeason.2.1 34 = .ok (.iload 4, 2) := by decide +kernel
theorem dM_goSeason_36 : decode mM_goSeason.2.1 36 = .ok (.iload_n 3, 1) := by decide +kernel
theorem dM_goSeason_37 : decode mM_goSeason.2.1 37 = .ok (.if_icmp .ge 175, 3) := by decide +kernel
theorem dM_goSeason_40 : decode mM_goSeason.2.1 40 = .ok (.aload_n 0, 1) := by decide +kernel
theorem dM_goSeason_41 : decode mM_goSeason.2.1 41 = .ok (.getfield 167, 3) := by decide +kernel
theorem dM_goSeason_44 : decode mM_goSeason.2.1 44 = .ok (.ifCond .ge 168, 3) := by decide +kernel
theorem dM_goSeason_47 : decode mM_goSeason.2.1 47 = .ok (.aload_n 0, 1) := by decide +kernel
theorem dM_goSeason_48 : decode mM_goSeason.2.1 48 = .ok (.getfield 59, 3) := by decide +kernel
theorem dM_goSeason_51 : decode mM_goSeason.2.1 51 = .ok (.iload_n 2, 1) := by decide +kernel
theorem dM_goSeason_52 : decode mM_goSeason.2.1 52 = .ok (.iconst 2, 1) := by decide +kernel
theorem dM_goSeason_53 : decode mM_goSeason.2.1 53 = .ok (.iload 4, 2) := by decide +kernel
theorem dM_goSeason_55 : decode mM_goSeason.2.1 55 = .ok (.imul, 1) := by decide +kernel
theorem dM_goSeason_56 : decode mM_goSeason.2.1 56 = .ok (.iadd, 1) := by decide +kernel
theorem dM_goSeason_57 : decode mM_goSeason.2.1 57 = .ok (.iaload, 1) := by decide +kernel
theorem dM_goSeason_58 : decode mM_goSeason.2.1 58 = .ok (.istore 5, 2) := by decide +kernel
theorem dM_goSeason_60 : decode mM_goSeason.2.1 60 = .ok (.aload_n 0, 1) := by decide +kernel
theorem dM_goSeason_61 : decode mM_goSeason.2.1 61 = .ok (.getfield 59, 3) := by decide +kernel
theorem dM_goSeason_64 : decode mM_goSeason.2.1 64 = .ok (.iload_n 2, 1) := by decide +kernel
theorem dM_goSeason_65 : decode mM_goSeason.2.1 65 = .ok (.iconst 2, 1) := by decide +kernel
theorem dM_goSeason_66 : decode mM_goSeason.2.1 66 = .ok (.iload 4, 2) := by decide +kernel
theorem dM_goSeason_68 : decode mM_goSeason.2.1 68 = .ok (.imul, 1) := by decide +kernel
theorem dM_goSeason_69 : decode mM_goSeason.2.1 69 = .ok (.iadd, 1) := by decide +kernel
theorem dM_goSeason_70 : decode mM_goSeason.2.1 70 = .ok (.iconst 1, 1) := by decide +kernel
theorem dM_goSeason_71 : decode mM_goSeason.2.1 71 = .ok (.iadd, 1) := by decide +kernel
theorem dM_goSeason_72 : decode mM_goSeason.2.1 72 = .ok (.iaload, 1) := by decide +kernel
theorem dM_goSeason_73 : decode mM_goSeason.2.1 73 = .ok (.istore 6, 2) := by decide +kernel
theorem dM_goSeason_75 : decode mM_goSeason.2.1 75 = .ok (.aload_n 0, 1) := by decide +kernel
theorem dM_goSeason_76 : decode mM_goSeason.2.1 76 = .ok (.getfield 13, 3) := by decide +kernel
theorem dM_goSeason_79 : decode mM_goSeason.2.1 79 = .ok (.iload 6, 2) := by decide +kernel
theorem dM_goSeason_81 : decode mM_goSeason.2.1 81 = .ok (.iaload, 1) := by decide +kernel
theorem dM_goSeason_82 : decode mM_goSeason.2.1 82 = .ok (.aload_n 0, 1) := by decide +kernel
theorem dM_goSeason_83 : decode mM_goSeason.2.1 83 = .ok (.getfield 170, 3) := by decide +kernel
theorem dM_goSeason_86 : decode mM_goSeason.2.1 86 = .ok (.if_icmp .le 12, 3) := by decide +kernel
theorem dM_goSeason_89 : decode mM_goSeason.2.1 89 = .ok (.aload_n 0, 1) := by decide +kernel
theorem dM_goSeason_90 : decode mM_goSeason.2.1 90 = .ok (.iload 4, 2) := by decide +kernel
theorem dM_goSeason_92 : decode mM_goSeason.2.1 92 = .ok (.putfield 167, 3) := by decide +kernel
theorem dM_goSeason_95 : decode mM_goSeason.2.1 95 = .ok (.goto 111, 3) := by decide +kernel
theorem dM_goSeason_98 : decode mM_goSeason.2.1 98 = .ok (.aload_n 0, 1) := by decide +kernel
theorem dM_goSeason_99 : decode mM_goSeason.2.1 99 = .ok (.dup, 1) := by decide +kernel
theorem dM_goSeason_100 : decode mM_goSeason.2.1 100 = .ok (.getfield 170, 3) := by decide +kernel
theorem dM_goSeason_103 : decode mM_goSeason.2.1 103 = .ok (.aload_n 0, 1) := by decide +kernel
theorem dM_goSeason_104 : decode mM_goSeason.2.1 104 = .ok (.getfield 13, 3) := by decide +kernel
theorem dM_goSeason_107 : decode mM_goSeason.2.1 107 = .ok (.iload 6, 2) := by decide +kernel
theorem dM_goSeason_109 : decode mM_goSeason.2.1 109 = .ok (.iaload, 1) := by decide +kernel
theorem dM_goSeason_110 : decode mM_goSeason.2.1 110 = .ok (.isub, 1) := by decide +kernel
theorem dM_goSeason_111 : decode mM_goSeason.2.1 111 = .ok (.putfield 170, 3) := by decide +kernel
theorem dM_goSeason_114 : decode mM_goSeason.2.1 114 = .ok (.aload_n 0, 1) := by decide +kernel
theorem dM_goSeason_115 : decode mM_goSeason.2.1 115 = .ok (.dup, 1) := by decide +kernel
theorem dM_goSeason_116 : decode mM_goSeason.2.1 116 = .ok (.getfield 179, 3) := by decide +kernel
theorem dM_goSeason_119 : decode mM_goSeason.2.1 119 = .ok (.aload_n 0, 1) := by decide +kernel
theorem dM_goSeason_120 : decode mM_goSeason.2.1 120 = .ok (.iload 5, 2) := by decide +kernel
theorem dM_goSeason_122 : decode mM_goSeason.2.1 122 = .ok (.iload 6, 2) := by decide +kernel
theorem dM_goSeason_124 : decode mM_goSeason.2.1 124 = .ok (.invokevirtual 148, 3) := by decide +kernel
theorem dM_goSeason_127 : decode mM_goSeason.2.1 127 = .ok (.iadd, 1) := by decide +kernel
theorem dM_goSeason_128 : decode mM_goSeason.2.1 128 = .ok (.putfield 179, 3) := by decide +kernel
theorem dM_goSeason_131 : decode mM_goSeason.2.1 131 = .ok (.iload 5, 2) := by decide +kernel
theorem dM_goSeason_133 : decode mM_goSeason.2.1 133 = .ok (.iload_n 1, 1) := by decide +kernel
theorem dM_goSeason_134 : decode mM_goSeason.2.1 134 = .ok (.if_icmp .ne 25, 3) := by decide +kernel
theorem dM_goSeason_137 : decode mM_goSeason.2.1 137 = .ok (.aload_n 0, 1) := by decide +kernel
theorem dM_goSeason_138 : decode mM_goSeason.2.1 138 = .ok (.iload 5, 2) := by decide +kernel
theorem dM_goSeason_140 : decode mM_goSeason.2.1 140 = .ok (.iload 6, 2) := by decide +kernel
theorem dM_goSeason_142 : decode mM_goSeason.2.1 142 = .ok (.invokevirtual 151, 3) := by decide +kernel
theorem dM_goSeason_145 : decode mM_goSeason.2.1 145 = .ok (.ifCond .eq 14, 3) := by decide +kernel
theorem dM_goSeason_148 : decode mM_goSeason.2.1 148 = .ok (.aload_n 0, 1) := by decide +kernel
theorem dM_goSeason_149 : decode mM_goSeason.2.1 149 = .ok (.getfield 173, 3) := by decide +kernel
theorem dM_goSeason_152 : decode mM_goSeason.2.1 152 = .ok (.ifCond .le 7, 3) := by decide +kernel
theorem dM_goSeason_155 : decode mM_goSeason.2.1 155 = .ok (.iconst 1, 1) := by decide +kernel
theorem dM_goSeason_156 : decode mM_goSeason.2.1 156 = .ok (.goto 4, 3) := by decide +kernel
theorem dM_goSeason_159 : decode mM_goSeason.2.1 159 = .ok (.iconst 0, 1) := by decide +kernel
theorem dM_goSeason_160 : decode mM_goSeason.2.1 160 = .ok (.istore 7, 2) := by decide +kernel
theorem dM_goSeason_162 : decode mM_goSeason.2.1 162 = .ok (.aload_n 0, 1) := by decide +kernel
theorem dM_goSeason_163 : decode mM_goSeason.2.1 163 = .ok (.dup, 1) := by decide +kernel
theorem dM_goSeason_164 : decode mM_goSeason.2.1 164 = .ok (.getfield 173, 3) := by decide +kernel
theorem dM_goSeason_167 : decode mM_goSeason.2.1 167 = .ok (.iload 7, 2) := by decide +kernel
theorem dM_goSeason_169 : decode mM_goSeason.2.1 169 = .ok (.ifCond .eq 7, 3) := by decide +kernel
theorem dM_goSeason_172 : decode mM_goSeason.2.1 172 = .ok (.iconst 1, 1) := by decide +kernel
theorem dM_goSeason_173 : decode mM_goSeason.2.1 173 = .ok (.goto 4, 3) := by decide +kernel
theorem dM_goSeason_176 : decode mM_goSeason.2.1 176 = .ok (.iconst 0, 1) := by decide +kernel
theorem dM_goSeason_177 : decode mM_goSeason.2.1 177 = .ok (.isub, 1) := by decide +kernel
theorem dM_goSeason_178 : decode mM_goSeason.2.1 178 = .ok (.putfield 173, 3) := by decide +kernel
theorem dM_goSeason_181 : decode mM_goSeason.2.1 181 = .ok (.aload_n 0, 1) := by decide +kernel
theorem dM_goSeason_182 : decode mM_goSeason.2.1 182 = .ok (.iload 7, 2) := by decide +kernel
theorem dM_goSeason_184 : decode mM_goSeason.2.1 184 = .ok (.ifCond .eq 15, 3) := by decide +kernel
theorem dM_goSeason_187 : decode mM_goSeason.2.1 187 = .ok (.aload_n 0, 1) := by decide +kernel
theorem dM_goSeason_188 : decode mM_goSeason.2.1 188 = .ok (.getfield 173, 3) := by decide +kernel
theorem dM_goSeason_191 : decode mM_goSeason.2.1 191 = .ok (.ifCond .ne 8, 3) := by decide +kernel
theorem dM_goSeason_194 : decode mM_goSeason.2.1 194 = .ok (.iload 4, 2) := by decide +kernel
theorem dM_goSeason_196 : decode mM_goSeason.2.1 196 = .ok (.goto 7, 3) := by decide +kernel
theorem dM_goSeason_199 : decode mM_goSeason.2.1 199 = .ok (.aload_n 0, 1) := by decide +kernel
theorem dM_goSeason_200 : decode mM_goSeason.2.1 200 = .ok (.getfield 176, 3) := by decide +kernel
theorem dM_goSeason_203 : decode mM_goSeason.2.1 203 = .ok (.putfield 176, 3) := by decide +kernel
theorem dM_goSeason_206 : decode mM_goSeason.2.1 206 = .ok (.iinc 4 1, 3) := by decide +kernel
theorem dM_goSeason_209 : decode mM_goSeason.2.1 209 = .ok (.goto (-175), 3) := by decide +kernel
theorem dM_goSeason_212 : decode mM_goSeason.2.1 212 = .ok (.return_, 1) := by decide +kernel
theorem dM_greet_0 : decode mM_greet.2.1 0 = .ok (.aload_n 0, 1) := by decide +kernel
theorem dM_greet_1 : decode mM_greet.2.1 1 = .ok (.iload_n 1, 1) := by decide +kernel
theorem dM_greet_2 : decode mM_greet.2.1 2 = .ok (.invokevirtual 154, 3) := by decide +kernel
theorem dM_greet_5 : decode mM_greet.2.1 5 = .ok (.ifCond .eq 5, 3) := by decide +kernel
theorem dM_greet_8 : decode mM_greet.2.1 8 = .ok (.iconst (-1), 1) := by decide +kernel
theorem dM_greet_9 : decode mM_greet.2.1 9 = .ok (.ireturn, 1) := by decide +kernel
theorem dM_greet_10 : decode mM_greet.2.1 10 = .ok (.aload_n 0, 1) := by decide +kernel
theorem dM_greet_11 : decode mM_greet.2.1 11 = .ok (.aload_n 0, 1) := by decide +kernel
theorem dM_greet_12 : decode mM_greet.2.1 12 = .ok (.getfield 16, 3) := by decide +kernel
theorem dM_greet_15 : decode mM_greet.2.1 15 = .ok (.iload_n 1, 1) := by decide +kernel
theorem dM_greet_16 : decode mM_greet.2.1 16 = .ok (.iaload, 1) := by decide +kernel
theorem dM_greet_17 : decode mM_greet.2.1 17 = .ok (.iconst 2, 1) := by decide +kernel
theorem dM_greet_18 : decode mM_greet.2.1 18 = .ok (.if_icmp .ne 7, 3) := by decide +kernel
theorem dM_greet_21 : decode mM_greet.2.1 21 = .ok (.iconst 5, 1) := by decide +kernel
theorem dM_greet_22 : decode mM_greet.2.1 22 = .ok (.goto 4, 3) := by decide +kernel
theorem dM_greet_25 : decode mM_greet.2.1 25 = .ok (.iconst 4, 1) := by decide +kernel
theorem dM_greet_26 : decode mM_greet.2.1 26 = .ok (.invokevirtual 239, 3) := by decide +kernel
theorem dM_greet_29 : decode mM_greet.2.1 29 = .ok (.aload_n 0, 1) := by decide +kernel
theorem dM_greet_30 : decode mM_greet.2.1 30 = .ok (.getfield 16, 3) := by decide +kernel
theorem dM_greet_33 : decode mM_greet.2.1 33 = .ok (.iload_n 1, 1) := by decide +kernel
theorem dM_greet_34 : decode mM_greet.2.1 34 = .ok (.iaload, 1) := by decide +kernel
theorem dM_greet_35 : decode mM_greet.2.1 35 = .ok (.iconst 2, 1) := by decide +kernel
theorem dM_greet_36 : decode mM_greet.2.1 36 = .ok (.if_icmp .ne 8, 3) := by decide +kernel
theorem dM_greet_39 : decode mM_greet.2.1 39 = .ok (.bipush 50, 2) := by decide +kernel
theorem dM_greet_41 : decode mM_greet.2.1 41 = .ok (.goto 4, 3) := by decide +kernel
theorem dM_greet_44 : decode mM_greet.2.1 44 = .ok (.iload_n 1, 1) := by decide +kernel
theorem dM_greet_45 : decode mM_greet.2.1 45 = .ok (.ireturn, 1) := by decide +kernel
theorem dM_hotel_0 : decode mM_hotel.2.1 0 = .ok (.iload_n 1, 1) := by decide +kernel
theorem dM_hotel_1 : decode mM_hotel.2.1 1 = .ok (.invokestatic 123, 3) := by decide +kernel
theorem dM_hotel_4 : decode mM_hotel.2.1 4 = .ok (.ifCond .eq 9, 3) := by decide +kernel
theorem dM_hotel_7 : decode mM_hotel.2.1 7 = .ok (.aload_n 0, 1) := by decide +kernel
theorem dM_hotel_8 : decode mM_hotel.2.1 8 = .ok (.iconst (-1), 1) := by decide +kernel
theorem dM_hotel_9 : decode mM_hotel.2.1 9 = .ok (.invokevirtual 127, 3) := by decide +kernel
theorem dM_hotel_12 : decode mM_hotel.2.1 12 = .ok (.ireturn, 1) := by decide +kernel
theorem dM_hotel_13 : decode mM_hotel.2.1 13 = .ok (.iload_n 2, 1) := by decide +kernel
theorem dM_hotel_14 : decode mM_hotel.2.1 14 = .ok (.i2l, 1) := by decide +kernel
theorem dM_hotel_15 : decode mM_hotel.2.1 15 = .ok (.lconst 0, 1) := by decide +kernel
theorem dM_hotel_16 : decode mM_hotel.2.1 16 = .ok (.ldc2_w 130, 3) := by decide +kernel
theorem dM_hotel_19 : decode mM_hotel.2.1 19 = .ok (.invokestatic 78, 3) := by decide +kernel
theorem dM_hotel_22 : decode mM_hotel.2.1 22 = .ok (.ifCond .ne 10, 3) := by decide +kernel
theorem dM_hotel_25 : decode mM_hotel.2.1 25 = .ok (.aload_n 0, 1) := by decide +kernel
theorem dM_hotel_26 : decode mM_hotel.2.1 26 = .ok (.bipush (-2), 2) := by decide +kernel
theorem dM_hotel_28 : decode mM_hotel.2.1 28 = .ok (.invokevirtual 127, 3) := by decide +kernel
theorem dM_hotel_31 : decode mM_hotel.2.1 31 = .ok (.ireturn, 1) := by decide +kernel
theorem dM_hotel_32 : decode mM_hotel.2.1 32 = .ok (.aload_n 0, 1) := by decide +kernel
theorem dM_hotel_33 : decode mM_hotel.2.1 33 = .ok (.iload_n 1, 1) := by decide +kernel
theorem dM_hotel_34 : decode mM_hotel.2.1 34 = .ok (.iload_n 2, 1) := by decide +kernel
theorem dM_hotel_35 : decode mM_hotel.2.1 35 = .ok (.iload_n 3, 1) := by decide +kernel
theorem dM_hotel_36 : decode mM_hotel.2.1 36 = .ok (.iload 4, 2) := by decide +kernel
theorem dM_hotel_38 : decode mM_hotel.2.1 38 = .ok (.i2l, 1) := by decide +kernel
theorem dM_hotel_39 : decode mM_hotel.2.1 39 = .ok (.invokevirtual 132, 3) := by decide +kernel
theorem dM_hotel_42 : decode mM_hotel.2.1 42 = .ok (.istore 5, 2) := by decide +kernel
theorem dM_hotel_44 : decode mM_hotel.2.1 44 = .ok (.iload 5, 2) := by decide +kernel
theorem dM_hotel_46 : decode mM_hotel.2.1 46 = .ok (.ifCond .ge 6, 3) := by decide +kernel
theorem dM_hotel_49 : decode mM_hotel.2.1 49 = .ok (.iload 5, 2) := by decide +kernel
theorem dM_hotel_51 : decode mM_hotel.2.1 51 = .ok (.ireturn, 1) := by decide +kernel
theorem dM_hotel_52 : decode mM_hotel.2.1 52 = .ok (.aload_n 0, 1) := by decide +kernel
theorem dM_hotel_53 : decode mM_hotel.2.1 53 = .ok (.bipush 60, 2) := by decide +kernel
theorem dM_hotel_55 : decode mM_hotel.2.1 55 = .ok (.iload_n 1, 1) := by decide +kernel
theorem dM_hotel_56 : decode mM_hotel.2.1 56 = .ok (.imul, 1) := by decide +kernel
theorem dM_hotel_57 : decode mM_hotel.2.1 57 = .ok (.iload_n 3, 1) := by decide +kernel
theorem dM_hotel_58 : decode mM_hotel.2.1 58 = .ok (.iadd, 1) := by decide +kernel
theorem dM_hotel_59 : decode mM_hotel.2.1 59 = .ok (.iload 4, 2) := by decide +kernel
theorem dM_hotel_61 : decode mM_hotel.2.1 61 = .ok (.invokevirtual 136, 3) := by decide +kernel
theorem dM_hotel_64 : decode mM_hotel.2.1 64 = .ok (.ifCond .ne 15, 3) := by decide +kernel
theorem dM_hotel_67 : decode mM_hotel.2.1 67 = .ok (.aload_n 0, 1) := by decide +kernel
theorem dM_hotel_68 : decode mM_hotel.2.1 68 = .ok (.bipush (-100), 2) := by decide +kernel
theorem dM_hotel_70 : decode mM_hotel.2.1 70 = .ok (.aload_n 0, 1) := by decide +kernel
theorem dM_hotel_71 : decode mM_hotel.2.1 71 = .ok (.getfield 85, 3) := by decide +kernel
theorem dM_hotel_74 : decode mM_hotel.2.1 74 = .ok (.isub, 1) := by decide +kernel
theorem dM_hotel_75 : decode mM_hotel.2.1 75 = .ok (.invokevirtual 127, 3) := by decide +kernel
theorem dM_hotel_78 : decode mM_hotel.2.1 78 = .ok (.ireturn, 1) := by decide +kernel
theorem dM_hotel_79 : decode mM_hotel.2.1 79 = .ok (.aload_n 0, 1) := by decide +kernel
theorem dM_hotel_80 : decode mM_hotel.2.1 80 = .ok (.aload_n 0, 1) := by decide +kernel
theorem dM_hotel_81 : decode mM_hotel.2.1 81 = .ok (.getfield 102, 3) := by decide +kernel
theorem dM_hotel_84 : decode mM_hotel.2.1 84 = .ok (.putfield 139, 3) := by decide +kernel
theorem dM_hotel_87 : decode mM_hotel.2.1 87 = .ok (.aload_n 0, 1) := by decide +kernel
theorem dM_hotel_88 : decode mM_hotel.2.1 88 = .ok (.aload_n 0, 1) := by decide +kernel
theorem dM_hotel_89 : decode mM_hotel.2.1 89 = .ok (.getfield 105, 3) := by decide +kernel
theorem dM_hotel_92 : decode mM_hotel.2.1 92 = .ok (.putfield 142, 3) := by decide +kernel
theorem dM_hotel_95 : decode mM_hotel.2.1 95 = .ok (.aload_n 0, 1) := by decide +kernel
theorem dM_hotel_96 : decode mM_hotel.2.1 96 = .ok (.aload_n 0, 1) := by decide +kernel
theorem dM_hotel_97 : decode mM_hotel.2.1 97 = .ok (.getfield 92, 3) := by decide +kernel
theorem dM_hotel_100 : decode mM_hotel.2.1 100 = .ok (.putfield 82, 3) := by decide +kernel
theorem dM_hotel_103 : decode mM_hotel.2.1 103 = .ok (.aload_n 0, 1) := by decide +kernel
theorem dM_hotel_104 : decode mM_hotel.2.1 104 = .ok (.aload_n 0, 1) := by decide +kernel
theorem dM_hotel_105 : decode mM_hotel.2.1 105 = .ok (.getfield 99, 3) := by decide +kernel
theorem dM_hotel_108 : decode mM_hotel.2.1 108 = .ok (.putfield 75, 3) := by decide +kernel
theorem dM_hotel_111 : decode mM_hotel.2.1 111 = .ok (.iconst 0, 1) := by decide +kernel
theorem dM_hotel_112 : decode mM_hotel.2.1 112 = .ok (.istore 6, 2) := by decide +kernel
theorem dM_hotel_114 : decode mM_hotel.2.1 114 = .ok (.iload 6, 2) := by decide +kernel
theorem dM_hotel_116 : decode mM_hotel.2.1 116 = .ok (.aload_n 0, 1) := by decide +kernel
theorem dM_hotel_117 : decode mM_hotel.2.1 117 = .ok (.getfield 82, 3) := by decide +kernel
theorem dM_hotel_120 : decode mM_hotel.2.1 120 = .ok (.if_icmp .ge 37, 3) := by decide +kernel
theorem dM_hotel_123 : decode mM_hotel.2.1 123 = .ok (.aload_n 0, 1) := by decide +kernel
theorem dM_hotel_124 : decode mM_hotel.2.1 124 = .ok (.getfield 7, 3) := by decide +kernel
theorem dM_hotel_127 : decode mM_hotel.2.1 127 = .ok (.iload 6, 2) := by decide +kernel
theorem dM_hotel_129 : decode mM_hotel.2.1 129 = .ok (.aload_n 0, 1) := by decide +kernel
theorem dM_hotel_130 : decode mM_hotel.2.1 130 = .ok (.getfield 25, 3) := by decide +kernel
theorem dM_hotel_133 : decode mM_hotel.2.1 133 = .ok (.iload 6, 2) := by decide +kernel
theorem dM_hotel_135 : decode mM_hotel.2.1 135 = .ok (.iaload, 1) := by decide +kernel
theorem dM_hotel_136 : decode mM_hotel.2.1 136 = .ok (.iastore, 1) := by decide +kernel
theorem dM_hotel_137 : decode mM_hotel.2.1 137 = .ok (.aload_n 0, 1) := by decide +kernel
theorem dM_hotel_138 : decode mM_hotel.2.1 138 = .ok (.getfield 13, 3) := by decide +kernel
theorem dM_hotel_141 : decode mM_hotel.2.1 141 = .ok (.iload 6, 2) := by decide +kernel
theorem dM_hotel_143 : decode mM_hotel.2.1 143 = .ok (.aload_n 0, 1) := by decide +kernel
theorem dM_hotel_144 : decode mM_hotel.2.1 144 = .ok (.getfield 28, 3) := by decide +kernel
theorem dM_hotel_147 : decode mM_hotel.2.1 147 = .ok (.iload 6, 2) := by decide +kernel
theorem dM_hotel_149 : decode mM_hotel.2.1 149 = .ok (.iaload, 1) := by decide +kernel
theorem dM_hotel_150 : decode mM_hotel.2.1 150 = .ok (.iastore, 1) := by decide +kernel
theorem dM_hotel_151 : decode mM_hotel.2.1 151 = .ok (.iinc 6 1, 3) := by decide +kernel
theorem dM_hotel_154 : decode mM_hotel.2.1 154 = .ok (.goto (-40), 3) := by decide +kernel
theorem dM_hotel_157 : decode mM_hotel.2.1 157 = .ok (.iconst 0, 1) := by decide +kernel
theorem dM_hotel_158 : decode mM_hotel.2.1 158 = .ok (.istore 6, 2) := by decide +kernel
theorem dM_hotel_160 : decode mM_hotel.2.1 160 = .ok (.iload 6, 2) := by decide +kernel
theorem dM_hotel_162 : decode mM_hotel.2.1 162 = .ok (.aload_n 0, 1) := by decide +kernel
theorem dM_hotel_163 : decode mM_hotel.2.1 163 = .ok (.getfield 75, 3) := by decide +kernel
theorem dM_hotel_166 : decode mM_hotel.2.1 166 = .ok (.if_icmp .ge 51, 3) := by decide +kernel
theorem dM_hotel_169 : decode mM_hotel.2.1 169 = .ok (.aload_n 0, 1) := by decide +kernel
theorem dM_hotel_170 : decode mM_hotel.2.1 170 = .ok (.getfield 16, 3) := by decide +kernel
theorem dM_hotel_173 : decode mM_hotel.2.1 173 = .ok (.iload 6, 2) := by decide +kernel
theorem dM_hotel_175 : decode mM_hotel.2.1 175 = .ok (.aload_n 0, 1) := by decide +kernel
theorem dM_hotel_176 : decode mM_hotel.2.1 176 = .ok (.getfield 31, 3) := by decide +kernel
theorem dM_hotel_179 : decode mM_hotel.2.1 179 = .ok (.iload 6, 2) := by decide +kernel
theorem dM_hotel_181 : decode mM_hotel.2.1 181 = .ok (.iaload, 1) := by decide +kernel
theorem dM_hotel_182 : decode mM_hotel.2.1 182 = .ok (.iastore, 1) := by decide +kernel
theorem dM_hotel_183 : decode mM_hotel.2.1 183 = .ok (.aload_n 0, 1) := by decide +kernel
theorem dM_hotel_184 : decode mM_hotel.2.1 184 = .ok (.getfield 19, 3) := by decide +kernel
theorem dM_hotel_187 : decode mM_hotel.2.1 187 = .ok (.iload 6, 2) := by decide +kernel
theorem dM_hotel_189 : decode mM_hotel.2.1 189 = .ok (.aload_n 0, 1) := by decide +kernel
theorem dM_hotel_190 : decode mM_hotel.2.1 190 = .ok (.getfield 34, 3) := by decide +kernel
theorem dM_hotel_193 : decode mM_hotel.2.1 193 = .ok (.iload 6, 2) := by decide +kernel
theorem dM_hotel_195 : decode mM_hotel.2.1 195 = .ok (.iaload, 1) := by decide +kernel
theorem dM_hotel_196 : decode mM_hotel.2.1 196 = .ok (.iastore, 1) := by decide +kernel
theorem dM_hotel_197 : decode mM_hotel.2.1 197 = .ok (.aload_n 0, 1) := by decide +kernel
theorem dM_hotel_198 : decode mM_hotel.2.1 198 = .ok (.getfield 22, 3) := by decide +kernel
theorem dM_hotel_201 : decode mM_hotel.2.1 201 = .ok (.iload 6, 2) := by decide +kernel
theorem dM_hotel_203 : decode mM_hotel.2.1 203 = .ok (.aload_n 0, 1) := by decide +kernel
theorem dM_hotel_204 : decode mM_hotel.2.1 204 = .ok (.getfield 37, 3) := by decide +kernel
theorem dM_hotel_207 : decode mM_hotel.2.1 207 = .ok (.iload 6, 2) := by decide +kernel
theorem dM_hotel_209 : decode mM_hotel.2.1 209 = .ok (.iaload, 1) := by decide +kernel
theorem dM_hotel_210 : decode mM_hotel.2.1 210 = .ok (.iastore, 1) := by decide +kernel
theorem dM_hotel_211 : decode mM_hotel.2.1 211 = .ok (.iinc 6 1, 3) := by decide +kernel
theorem dM_hotel_214 : decode mM_hotel.2.1 214 = .ok (.goto (-54), 3) := by decide +kernel
theorem dM_hotel_217 : decode mM_hotel.2.1 217 = .ok (.aload_n 0, 1) := by decide +kernel
theorem dM_hotel_218 : decode mM_hotel.2.1 218 = .ok (.iconst 0, 1) := by decide +kernel
theorem dM_hotel_219 : decode mM_hotel.2.1 219 = .ok (.putfield 145, 3) := by decide +kernel
theorem dM_hotel_222 : decode mM_hotel.2.1 222 = .ok (.aload_n 0, 1) := by decide +kernel
theorem dM_hotel_223 : decode mM_hotel.2.1 223 = .ok (.aload_n 0, 1) := by decide +kernel
theorem dM_hotel_224 : decode mM_hotel.2.1 224 = .ok (.getfield 75, 3) := by decide +kernel
theorem dM_hotel_227 : decode mM_hotel.2.1 227 = .ok (.invokevirtual 127, 3) := by decide +kernel
theorem dM_hotel_230 : decode mM_hotel.2.1 230 = .ok (.ireturn, 1) := by decide +kernel
theorem dM_in_0 : decode mM_in.2.1 0 = .ok (.lload_n 0, 1) := by decide +kernel
theorem dM_in_1 : decode mM_in.2.1 1 = .ok (.lload_n 2, 1) := by decide +kernel
theorem dM_in_2 : decode mM_in.2.1 2 = .ok (.lcmp, 1) := by decide +kernel
theorem dM_in_3 : decode mM_in.2.1 3 = .ok (.ifCond .lt 14, 3) := by decide +kernel
theorem dM_in_6 : decode mM_in.2.1 6 = .ok (.lload_n 0, 1) := by decide +kernel
theorem dM_in_7 : decode mM_in.2.1 7 = .ok (.lload 4, 2) := by decide +kernel
theorem dM_in_9 : decode mM_in.2.1 9 = .ok (.lcmp, 1) := by decide +kernel
theorem dM_in_10 : decode mM_in.2.1 10 = .ok (.ifCond .gt 7, 3) := by decide +kernel
theorem dM_in_13 : decode mM_in.2.1 13 = .ok (.iconst 1, 1) := by decide +kernel
theorem dM_in_14 : decode mM_in.2.1 14 = .ok (.goto 4, 3) := by decide +kernel
theorem dM_in_17 : decode mM_in.2.1 17 = .ok (.iconst 0, 1) := by decide +kernel
theorem dM_in_18 : decode mM_in.2.1 18 = .ok (.ireturn, 1) := by decide +kernel
theorem dM_init_0 : decode mM_init.2.1 0 = .ok (.aload_n 0, 1) := by decide +kernel
theorem dM_init_1 : decode mM_init.2.1 1 = .ok (.invokespecial 1, 3) := by decide +kernel
theorem dM_init_4 : decode mM_init.2.1 4 = .ok (.aload_n 0, 1) := by decide +kernel
theorem dM_init_5 : decode mM_init.2.1 5 = .ok (.iconst 4, 1) := by decide +kernel
theorem dM_init_6 : decode mM_init.2.1 6 = .ok (.newarray .int, 2) := by decide +kernel
theorem dM_init_8 : decode mM_init.2.1 8 = .ok (.putfield 7, 3) := by decide +kernel
theorem dM_init_11 : decode mM_init.2.1 11 = .ok (.aload_n 0, 1) := by decide +kernel
theorem dM_init_12 : decode mM_init.2.1 12 = .ok (.iconst 4, 1) := by decide +kernel
theorem dM_init_13 : decode mM_init.2.1 13 = .ok (.newarray .int, 2) := by decide +kernel
theorem dM_init_15 : decode mM_init.2.1 15 = .ok (.putfield 13, 3) := by decide +kernel
theorem dM_init_18 : decode mM_init.2.1 18 = .ok (.aload_n 0, 1) := by decide +kernel
theorem dM_init_19 : decode mM_init.2.1 19 = .ok (.bipush 6, 2) := by decide +kernel
theorem dM_init_21 : decode mM_init.2.1 21 = .ok (.newarray .int, 2) := by decide +kernel
theorem dM_init_23 : decode mM_init.2.1 23 = .ok (.putfield 16, 3) := by decide +kernel
theorem dM_init_26 : decode mM_init.2.1 26 = .ok (.aload_n 0, 1) := by decide +kernel
theorem dM_init_27 : decode mM_init.2.1 27 = .ok (.bipush 6, 2) := by decide +kernel
theorem dM_init_29 : decode mM_init.2.1 29 = .ok (.newarray .int, 2) := by decide +kernel
theorem dM_init_31 : decode mM_init.2.1 31 = .ok (.putfield 19, 3) := by decide +kernel
theorem dM_init_34 : decode mM_init.2.1 34 = .ok (.aload_n 0, 1) := by decide +kernel
theorem dM_init_35 : decode mM_init.2.1 35 = .ok (.bipush 6, 2) := by decide +kernel
theorem dM_init_37 : decode mM_init.2.1 37 = .ok (.newarray .int, 2) := by decide +kernel
theorem dM_init_39 : decode mM_init.2.1 39 = .ok (.putfield 22, 3) := by decide +kernel
theorem dM_init_42 : decode mM_init.2.1 42 = .ok (.aload_n 0, 1) := by decide +kernel
theorem dM_init_43 : decode mM_init.2.1 43 = .ok (.iconst 4, 1) := by decide +kernel
theorem dM_init_44 : decode mM_init.2.1 44 = .ok (.newarray .int, 2) := by decide +kernel
theorem dM_init_46 : decode mM_init.2.1 46 = .ok (.putfield 25, 3) := by decide +kernel
theorem dM_init_49 : decode mM_init.2.1 49 = .ok (.aload_n 0, 1) := by decide +kernel
theorem dM_init_50 : decode mM_init.2.1 50 = .ok (.iconst 4, 1) := by decide +kernel
theorem dM_init_51 : decode mM_init.2.1 51 = .ok (.newarray .int, 2) := by decide +kernel
theorem dM_init_53 : decode mM_init.2.1 53 = .ok (.putfield 28, 3) := by decide +kernel
theorem dM_init_56 : decode mM_init.2.1 56 = .ok (.aload_n 0, 1) := by decide +kernel
theorem dM_init_57 : decode mM_init.2.1 57 = .ok (.bipush 6, 2) := by decide +kernel
theorem dM_init_59 : decode mM_init.2.1 59 = .ok (.newarray .int, 2) := by decide +kernel
theorem dM_init_61 : decode mM_init.2.1 61 = .ok (.putfield 31, 3) := by decide +kernel
theorem dM_init_64 : decode mM_init.2.1 64 = .ok (.aload_n 0, 1) := by decide +kernel
theorem dM_init_65 : decode mM_init.2.1 65 = .ok (.bipush 6, 2) := by decide +kernel
theorem dM_init_67 : decode mM_init.2.1 67 = .ok (.newarray .int, 2) := by decide +kernel
theorem dM_init_69 : decode mM_init.2.1 69 = .ok (.putfield 34, 3) := by decide +kernel
theorem dM_init_72 : decode mM_init.2.1 72 = .ok (.aload_n 0, 1) := by decide +kernel
theorem dM_init_73 : decode mM_init.2.1 73 = .ok (.bipush 6, 2) := by decide +kernel
theorem dM_init_75 : decode mM_init.2.1 75 = .ok (.newarray .int, 2) := by decide +kernel
theorem dM_init_77 : decode mM_init.2.1 77 = .ok (.putfield 37, 3) := by decide +kernel
theorem dM_init_80 : decode mM_init.2.1 80 = .ok (.aload_n 0, 1) := by decide +kernel
theorem dM_init_81 : decode mM_init.2.1 81 = .ok (.bipush 6, 2) := by decide +kernel
theorem dM_init_83 : decode mM_init.2.1 83 = .ok (.newarray .int, 2) := by decide +kernel
theorem dM_init_85 : decode mM_init.2.1 85 = .ok (.putfield 40, 3) := by decide +kernel
theorem dM_init_88 : decode mM_init.2.1 88 = .ok (.aload_n 0, 1) := by decide +kernel
theorem dM_init_89 : decode mM_init.2.1 89 = .ok (.bipush 8, 2) := by decide +kernel
theorem dM_init_91 : decode mM_init.2.1 91 = .ok (.newarray .int, 2) := by decide +kernel
theorem dM_init_93 : decode mM_init.2.1 93 = .ok (.putfield 43, 3) := by decide +kernel
theorem dM_init_96 : decode mM_init.2.1 96 = .ok (.aload_n 0, 1) := by decide +kernel
theorem dM_init_97 : decode mM_init.2.1 97 = .ok (.bipush 8, 2) := by decide +kernel
theorem dM_init_99 : decode mM_init.2.1 99 = .ok (.newarray .int, 2) := by decide +kernel
theorem dM_init_101 : decode mM_init.2.1 101 = .ok (.putfield 46, 3) := by decide +kernel
theorem dM_init_104 : decode mM_init.2.1 104 = .ok (.aload_n 0, 1) := by decide +kernel
theorem dM_init_105 : decode mM_init.2.1 105 = .ok (.bipush 8, 2) := by decide +kernel
theorem dM_init_107 : decode mM_init.2.1 107 = .ok (.newarray .boolean, 2) := by decide +kernel
theorem dM_init_109 : decode mM_init.2.1 109 = .ok (.putfield 49, 3) := by decide +kernel
theorem dM_init_112 : decode mM_init.2.1 112 = .ok (.aload_n 0, 1) := by decide +kernel
theorem dM_init_113 : decode mM_init.2.1 113 = .ok (.iconst 4, 1) := by decide +kernel
theorem dM_init_114 : decode mM_init.2.1 114 = .ok (.newarray .int, 2) := by decide +kernel
theorem dM_init_116 : decode mM_init.2.1 116 = .ok (.putfield 53, 3) := by decide +kernel
theorem dM_init_119 : decode mM_init.2.1 119 = .ok (.aload_n 0, 1) := by decide +kernel
theorem dM_init_120 : decode mM_init.2.1 120 = .ok (.iconst 4, 1) := by decide +kernel
theorem dM_init_121 : decode mM_init.2.1 121 = .ok (.newarray .int, 2) := by decide +kernel
theorem dM_init_123 : decode mM_init.2.1 123 = .ok (.putfield 56, 3) := by decide +kernel
theorem dM_init_126 : decode mM_init.2.1 126 = .ok (.aload_n 0, 1) := by decide +kernel
theorem dM_init_127 : decode mM_init.2.1 127 = .ok (.sipush 240, 3) := by decide +kernel
theorem dM_init_130 : decode mM_init.2.1 130 = .ok (.newarray .int, 2) := by decide +kernel
theorem dM_init_132 : decode mM_init.2.1 132 = .ok (.putfield 59, 3) := by decide +kernel
theorem dM_init_135 : decode mM_init.2.1 135 = .ok (.aload_n 0, 1) := by decide +kernel
theorem dM_init_136 : decode mM_init.2.1 136 = .ok (.bipush 60, 2) := by decide +kernel
theorem dM_init_138 : decode mM_init.2.1 138 = .ok (.newarray .int, 2) := by decide +kernel
theorem dM_init_140 : decode mM_init.2.1 140 = .ok (.putfield 62, 3) := by decide +kernel
theorem dM_init_143 : decode mM_init.2.1 143 = .ok (.iconst 0, 1) := by decide +kernel
theorem dM_init_144 : decode mM_init.2.1 144 = .ok (.istore_n 1, 1) := by decide +kernel
theorem dM_init_145 : decode mM_init.2.1 145 = .ok (.iload_n 1, 1) := by decide +kernel
theorem dM_init_146 : decode mM_init.2.1 146 = .ok (.iconst 4, 1) := by decide +kernel
theorem dM_init_147 : decode mM_init.2.1 147 = .ok (.if_icmp .ge 16, 3) := by decide +kernel
theorem dM_init_150 : decode mM_init.2.1 150 = .ok (.aload_n 0, 1) := by decide +kernel
theorem dM_init_151 : decode mM_init.2.1 151 = .ok (.getfield 53, 3) := by decide +kernel
theorem dM_init_154 : decode mM_init.2.1 154 = .ok (.iload_n 1, 1) := by decide +kernel
theorem dM_init_155 : decode mM_init.2.1 155 = .ok (.iconst (-1), 1) := by decide +kernel
theorem dM_init_156 : decode mM_init.2.1 156 = .ok (.iastore, 1) := by decide +kernel
theorem dM_init_157 : decode mM_init.2.1 157 = .ok (.iinc 1 1, 3) := by decide +kernel
theorem dM_init_160 : decode mM_init.2.1 160 = .ok (.goto (-15), 3) := by decide +kernel
theorem dM_init_163 : decode mM_init.2.1 163 = .ok (.return_, 1) := by decide +kernel
theorem dM_isBeyond_0 : decode mM_isBeyond.2.1 0 = .ok (.iload_n 0, 1) := by decide +kernel
theorem dM_isBeyond_1 : decode mM_isBeyond.2.1 1 = .ok (.ifCond .lt 19, 3) := by decide +kernel
theorem dM_isBeyond_4 : decode mM_isBeyond.2.1 4 = .ok (.lload_n 1, 1) := by decide +kernel
theorem dM_isBeyond_5 : decode mM_isBeyond.2.1 5 = .ok (.lconst 0, 1) := by decide +kernel
theorem dM_isBeyond_6 : decode mM_isBeyond.2.1 6 = .ok (.lcmp, 1) := by decide +kernel
theorem dM_isBeyond_7 : decode mM_isBeyond.2.1 7 = .ok (.ifCond .lt 13, 3) := by decide +kernel
theorem dM_isBeyond_10 : decode mM_isBeyond.2.1 10 = .ok (.iload_n 0, 1) := by decide +kernel
theorem dM_isBeyond_11 : decode mM_isBeyond.2.1 11 = .ok (.i2l, 1) := by decide +kernel
theorem dM_isBeyond_12 : decode mM_isBeyond.2.1 12 = .ok (.lload_n 1, 1) := by decide +kernel
theorem dM_isBeyond_13 : decode mM_isBeyond.2.1 13 = .ok (.ladd, 1) := by decide +kernel
theorem dM_isBeyond_14 : decode mM_isBeyond.2.1 14 = .ok (.iload_n 3, 1) := by decide +kernel
theorem dM_isBeyond_15 : decode mM_isBeyond.2.1 15 = .ok (.i2l, 1) := by decide +kernel
theorem dM_isBeyond_16 : decode mM_isBeyond.2.1 16 = .ok (.lcmp, 1) := by decide +kernel
theorem dM_isBeyond_17 : decode mM_isBeyond.2.1 17 = .ok (.ifCond .le 7, 3) := by decide +kernel
theorem dM_isBeyond_20 : decode mM_isBeyond.2.1 20 = .ok (.iconst 1, 1) := by decide +kernel
theorem dM_isBeyond_21 : decode mM_isBeyond.2.1 21 = .ok (.goto 4, 3) := by decide +kernel
theorem dM_isBeyond_24 : decode mM_isBeyond.2.1 24 = .ok (.iconst 0, 1) := by decide +kernel
theorem dM_isBeyond_25 : decode mM_isBeyond.2.1 25 = .ok (.ireturn, 1) := by decide +kernel
theorem dM_isIn_0 : decode mM_isIn.2.1 0 = .ok (.iload_n 0, 1) := by decide +kernel
theorem dM_isIn_1 : decode mM_isIn.2.1 1 = .ok (.iload_n 1, 1) := by decide +kernel
theorem dM_isIn_2 : decode mM_isIn.2.1 2 = .ok (.ishr, 1) := by decide +kernel
theorem dM_isIn_3 : decode mM_isIn.2.1 3 = .ok (.iconst 1, 1) := by decide +kernel
theorem dM_isIn_4 : decode mM_isIn.2.1 4 = .ok (.iand, 1) := by decide +kernel
theorem dM_isIn_5 : decode mM_isIn.2.1 5 = .ok (.iconst 1, 1) := by decide +kernel
theorem dM_isIn_6 : decode mM_isIn.2.1 6 = .ok (.if_icmp .ne 7, 3) := by decide +kernel
theorem dM_isIn_9 : decode mM_isIn.2.1 9 = .ok (.iconst 1, 1) := by decide +kernel
theorem dM_isIn_10 : decode mM_isIn.2.1 10 = .ok (.goto 4, 3) := by decide +kernel
theorem dM_isIn_13 : decode mM_isIn.2.1 13 = .ok (.iconst 0, 1) := by decide +kernel
theorem dM_isIn_14 : decode mM_isIn.2.1 14 = .ok (.ireturn, 1) := by decide +kernel
theorem dM_kinds_0 : decode mM_kinds.2.1 0 = .ok (.aload_n 0, 1) := by decide +kernel
theorem dM_kinds_1 : decode mM_kinds.2.1 1 = .ok (.iload_n 1, 1) := by decide +kernel
theorem dM_kinds_2 : decode mM_kinds.2.1 2 = .ok (.invokevirtual 154, 3) := by decide +kernel
theorem dM_kinds_5 : decode mM_kinds.2.1 5 = .ok (.ifCond .eq 5, 3) := by decide +kernel
theorem dM_kinds_8 : decode mM_kinds.2.1 8 = .ok (.iconst (-1), 1) := by decide +kernel
theorem dM_kinds_9 : decode mM_kinds.2.1 9 = .ok (.ireturn, 1) := by decide +kernel
theorem dM_kinds_10 : decode mM_kinds.2.1 10 = .ok (.aload_n 0, 1) := by decide +kernel
theorem dM_kinds_11 : decode mM_kinds.2.1 11 = .ok (.getfield 16, 3) := by decide +kernel
theorem dM_kinds_14 : decode mM_kinds.2.1 14 = .ok (.iload_n 1, 1) := by decide +kernel
theorem dM_kinds_15 : decode mM_kinds.2.1 15 = .ok (.iaload, 1) := by decide +kernel
theorem dM_kinds_16 : decode mM_kinds.2.1 16 = .ok (.istore_n 2, 1) := by decide +kernel
theorem dM_kinds_17 : decode mM_kinds.2.1 17 = .ok (.iconst 0, 1) := by decide +kernel
theorem dM_kinds_18 : decode mM_kinds.2.1 18 = .ok (.istore_n 3, 1) := by decide +kernel
theorem dM_kinds_19 : decode mM_kinds.2.1 19 = .ok (.iconst 0, 1) := by decide +kernel
theorem dM_kinds_20 : decode mM_kinds.2.1 20 = .ok (.istore 4, 2) := by decide +kernel
theorem dM_kinds_22 : decode mM_kinds.2.1 22 = .ok (.iload 4, 2) := by decide +kernel
theorem dM_kinds_24 : decode mM_kinds.2.1 24 = .ok (.iconst 3, 1) := by decide +kernel
theorem dM_kinds_25 : decode mM_kinds.2.1 25 = .ok (.if_icmp .ge 35, 3) := by decide +kernel
theorem dM_kinds_28 : decode mM_kinds.2.1 28 = .ok (.aload_n 0, 1) := by decide +kernel
theorem dM_kinds_29 : decode mM_kinds.2.1 29 = .ok (.getfield 16, 3) := by decide +kernel
theorem dM_kinds_32 : decode mM_kinds.2.1 32 = .ok (.iload_n 1, 1) := by decide +kernel
theorem dM_kinds_33 : decode mM_kinds.2.1 33 = .ok (.iload 4, 2) := by decide +kernel
theorem dM_kinds_35 : decode mM_kinds.2.1 35 = .ok (.iastore, 1) := by decide +kernel
theorem dM_kinds_36 : decode mM_kinds.2.1 36 = .ok (.iload_n 3, 1) := by decide +kernel
theorem dM_kinds_37 : decode mM_kinds.2.1 37 = .ok (.aload_n 0, 1) := by decide +kernel
theorem dM_kinds_38 : decode mM_kinds.2.1 38 = .ok (.invokevirtual 216, 3) := by decide +kernel
theorem dM_kinds_41 : decode mM_kinds.2.1 41 = .ok (.ifCond .eq 10, 3) := by decide +kernel
theorem dM_kinds_44 : decode mM_kinds.2.1 44 = .ok (.iconst 1, 1) := by decide +kernel
theorem dM_kinds_45 : decode mM_kinds.2.1 45 = .ok (.iload 4, 2) := by decide +kernel
theorem dM_kinds_47 : decode mM_kinds.2.1 47 = .ok (.ishl, 1) := by decide +kernel
theorem dM_kinds_48 : decode mM_kinds.2.1 48 = .ok (.goto 4, 3) := by decide +kernel
theorem dM_kinds_51 : decode mM_kinds.2.1 51 = .ok (.iconst 0, 1) := by decide +kernel
theorem dM_kinds_52 : decode mM_kinds.2.1 52 = .ok (.ior, 1) := by decide +kernel
theorem dM_kinds_53 : decode mM_kinds.2.1 53 = .ok (.istore_n 3, 1) := by decide +kernel
theorem dM_kinds_54 : decode mM_kinds.2.1 54 = .ok (.iinc 4 1, 3) := by decide +kernel
theorem dM_kinds_57 : decode mM_kinds.2.1 57 = .ok (.goto (-35), 3) := by decide +kernel
theorem dM_kinds_60 : decode mM_kinds.2.1 60 = .ok (.aload_n 0, 1) := by decide +kernel
theorem dM_kinds_61 : decode mM_kinds.2.1 61 = .ok (.getfield 16, 3) := by decide +kernel
theorem dM_kinds_64 : decode mM_kinds.2.1 64 = .ok (.iload_n 1, 1) := by decide +kernel
theorem dM_kinds_65 : decode mM_kinds.2.1 65 = .ok (.iload_n 2, 1) := by decide +kernel
theorem dM_kinds_66 : decode mM_kinds.2.1 66 = .ok (.iastore, 1) := by decide +kernel
theorem dM_kinds_67 : decode mM_kinds.2.1 67 = .ok (.iload_n 3, 1) := by decide +kernel
theorem dM_kinds_68 : decode mM_kinds.2.1 68 = .ok (.ireturn, 1) := by decide +kernel
theorem dM_layRow_0 : decode mM_layRow.2.1 0 = .ok (.iload_n 1, 1) := by decide +kernel
theorem dM_layRow_1 : decode mM_layRow.2.1 1 = .ok (.istore_n 2, 1) := by decide +kernel
theorem dM_layRow_2 : decode mM_layRow.2.1 2 = .ok (.aload_n 0, 1) := by decide +kernel
theorem dM_layRow_3 : decode mM_layRow.2.1 3 = .ok (.iconst 0, 1) := by decide +kernel
theorem dM_layRow_4 : decode mM_layRow.2.1 4 = .ok (.putfield 203, 3) := by decide +kernel
theorem dM_layRow_7 : decode mM_layRow.2.1 7 = .ok (.aload_n 0, 1) := by decide +kernel
theorem dM_layRow_8 : decode mM_layRow.2.1 8 = .ok (.iconst 0, 1) := by decide +kernel
theorem dM_layRow_9 : decode mM_layRow.2.1 9 = .ok (.putfield 206, 3) := by decide +kernel
theorem dM_layRow_12 : decode mM_layRow.2.1 12 = .ok (.aload_n 0, 1) := by decide +kernel
theorem dM_layRow_13 : decode mM_layRow.2.1 13 = .ok (.iconst 0, 1) := by decide +kernel
theorem dM_layRow_14 : decode mM_layRow.2.1 14 = .ok (.putfield 209, 3) := by decide +kernel
theorem dM_layRow_17 : decode mM_layRow.2.1 17 = .ok (.aload_n 0, 1) := by decide +kernel
theorem dM_layRow_18 : decode mM_layRow.2.1 18 = .ok (.getfield 75, 3) := by decide +kernel
theorem dM_layRow_21 : decode mM_layRow.2.1 21 = .ok (.iconst 1, 1) := by decide +kernel
theorem dM_layRow_22 : decode mM_layRow.2.1 22 = .ok (.isub, 1) := by decide +kernel
theorem dM_layRow_23 : decode mM_layRow.2.1 23 = .ok (.istore_n 3, 1) := by decide +kernel
theorem dM_layRow_24 : decode mM_layRow.2.1 24 = .ok (.iload_n 3, 1) := by decide +kernel
theorem dM_layRow_25 : decode mM_layRow.2.1 25 = .ok (.ifCond .lt 88, 3) := by decide +kernel
theorem dM_layRow_28 : decode mM_layRow.2.1 28 = .ok (.iload_n 2, 1) := by decide +kernel
theorem dM_layRow_29 : decode mM_layRow.2.1 29 = .ok (.aload_n 0, 1) := by decide +kernel
theorem dM_layRow_30 : decode mM_layRow.2.1 30 = .ok (.getfield 82, 3) := by decide +kernel
theorem dM_layRow_33 : decode mM_layRow.2.1 33 = .ok (.irem, 1) := by decide +kernel
theorem dM_layRow_34 : decode mM_layRow.2.1 34 = .ok (.istore 4, 2) := by decide +kernel
theorem dM_layRow_36 : decode mM_layRow.2.1 36 = .ok (.iload_n 2, 1) := by decide +kernel
theorem dM_layRow_37 : decode mM_layRow.2.1 37 = .ok (.aload_n 0, 1) := by decide +kernel
theorem dM_layRow_38 : decode mM_layRow.2.1 38 = .ok (.getfield 82, 3) := by decide +kernel
theorem dM_layRow_41 : decode mM_layRow.2.1 41 = .ok (.idiv, 1) := by decide +kernel
theorem dM_layRow_42 : decode mM_layRow.2.1 42 = .ok (.istore_n 2, 1) := by decide +kernel
theorem dM_layRow_43 : decode mM_layRow.2.1 43 = .ok (.aload_n 0, 1) := by decide +kernel
theorem dM_layRow_44 : decode mM_layRow.2.1 44 = .ok (.getfield 40, 3) := by decide +kernel
theorem dM_layRow_47 : decode mM_layRow.2.1 47 = .ok (.iload_n 3, 1) := by decide +kernel
theorem dM_layRow_48 : decode mM_layRow.2.1 48 = .ok (.iload 4, 2) := by decide +kernel
theorem dM_layRow_50 : decode mM_layRow.2.1 50 = .ok (.iastore, 1) := by decide +kernel
theorem dM_layRow_51 : decode mM_layRow.2.1 51 = .ok (.aload_n 0, 1) := by decide +kernel
theorem dM_layRow_52 : decode mM_layRow.2.1 52 = .ok (.dup, 1) := by decide +kernel
theorem dM_layRow_53 : decode mM_layRow.2.1 53 = .ok (.getfield 203, 3) := by decide +kernel
theorem dM_layRow_56 : decode mM_layRow.2.1 56 = .ok (.aload_n 0, 1) := by decide +kernel
theorem dM_layRow_57 : decode mM_layRow.2.1 57 = .ok (.getfield 13, 3) := by decide +kernel
theorem dM_layRow_60 : decode mM_layRow.2.1 60 = .ok (.iload 4, 2) := by decide +kernel
theorem dM_layRow_62 : decode mM_layRow.2.1 62 = .ok (.iaload, 1) := by decide +kernel
theorem dM_layRow_63 : decode mM_layRow.2.1 63 = .ok (.iadd, 1) := by decide +kernel
theorem dM_layRow_64 : decode mM_layRow.2.1 64 = .ok (.putfield 203, 3) := by decide +kernel
theorem dM_layRow_67 : decode mM_layRow.2.1 67 = .ok (.aload_n 0, 1) := by decide +kernel
theorem dM_layRow_68 : decode mM_layRow.2.1 68 = .ok (.dup, 1) := by decide +kernel
theorem dM_layRow_69 : decode mM_layRow.2.1 69 = .ok (.getfield 206, 3) := by decide +kernel
theorem dM_layRow_72 : decode mM_layRow.2.1 72 = .ok (.aload_n 0, 1) := by decide +kernel
theorem dM_layRow_73 : decode mM_layRow.2.1 73 = .ok (.iload_n 3, 1) := by decide +kernel
theorem dM_layRow_74 : decode mM_layRow.2.1 74 = .ok (.iload 4, 2) := by decide +kernel
theorem dM_layRow_76 : decode mM_layRow.2.1 76 = .ok (.invokevirtual 151, 3) := by decide +kernel
theorem dM_layRow_79 : decode mM_layRow.2.1 79 = .ok (.ifCond .eq 7, 3) := by decide +kernel
theorem dM_layRow_82 : decode mM_layRow.2.1 82 = .ok (.iconst 1, 1) := by decide +kernel
theorem dM_layRow_83 : decode mM_layRow.2.1 83 = .ok (.goto 4, 3) := by decide +kernel
theorem dM_layRow_86 : decode mM_layRow.2.1 86 = .ok (.iconst 0, 1) := by decide +kernel
theorem dM_layRow_87 : decode mM_layRow.2.1 87 = .ok (.iadd, 1) := by decide +kernel
theorem dM_layRow_88 : decode mM_layRow.2.1 88 = .ok (.putfield 206, 3) := by decide +kernel
theorem dM_layRow_91 : decode mM_layRow.2.1 91 = .ok (.aload_n 0, 1) := by decide +kernel
theorem dM_layRow_92 : decode mM_layRow.2.1 92 = .ok (.dup, 1) := by decide +kernel
theorem dM_layRow_93 : decode mM_layRow.2.1 93 = .ok (.getfield 209, 3) := by decide +kernel
theorem dM_layRow_96 : decode mM_layRow.2.1 96 = .ok (.aload_n 0, 1) := by decide +kernel
theorem dM_layRow_97 : decode mM_layRow.2.1 97 = .ok (.iload_n 3, 1) := by decide +kernel
theorem dM_layRow_98 : decode mM_layRow.2.1 98 = .ok (.iload 4, 2) := by decide +kernel
theorem dM_layRow_100 : decode mM_layRow.2.1 100 = .ok (.invokevirtual 148, 3) := by decide +kernel
theorem dM_layRow_103 : decode mM_layRow.2.1 103 = .ok (.iadd, 1) := by decide +kernel
theorem dM_layRow_104 : decode mM_layRow.2.1 104 = .ok (.putfield 209, 3) := by decide +kernel
theorem dM_layRow_107 : decode mM_layRow.2.1 107 = .ok (.iinc 3 (-1), 3) := by decide +kernel
theorem dM_layRow_110 : decode mM_layRow.2.1 110 = .ok (.goto (-86), 3) := by decide +kernel
theorem dM_layRow_113 : decode mM_layRow.2.1 113 = .ok (.return_, 1) := by decide +kernel
theorem dM_limits_0 : decode mM_limits.2.1 0 = .ok (.aload_n 0, 1) := by decide +kernel
theorem dM_limits_1 : decode mM_limits.2.1 1 = .ok (.getfield 75, 3) := by decide +kernel
theorem dM_limits_4 : decode mM_limits.2.1 4 = .ok (.ifCond .ne 6, 3) := by decide +kernel
theorem dM_limits_7 : decode mM_limits.2.1 7 = .ok (.bipush (-3), 2) := by decide +kernel
theorem dM_limits_9 : decode mM_limits.2.1 9 = .ok (.ireturn, 1) := by decide +kernel
theorem dM_limits_10 : decode mM_limits.2.1 10 = .ok (.aload_n 0, 1) := by decide +kernel
theorem dM_limits_11 : decode mM_limits.2.1 11 = .ok (.getfield 142, 3) := by decide +kernel
theorem dM_limits_14 : decode mM_limits.2.1 14 = .ok (.istore_n 1, 1) := by decide +kernel
theorem dM_limits_15 : decode mM_limits.2.1 15 = .ok (.iconst 0, 1) := by decide +kernel
theorem dM_limits_16 : decode mM_limits.2.1 16 = .ok (.istore_n 2, 1) := by decide +kernel
theorem dM_limits_17 : decode mM_limits.2.1 17 = .ok (.iconst 1, 1) := by decide +kernel
theorem dM_limits_18 : decode mM_limits.2.1 18 = .ok (.istore_n 3, 1) := by decide +kernel
theorem dM_limits_19 : decode mM_limits.2.1 19 = .ok (.iload_n 3, 1) := by decide +kernel
theorem dM_limits_20 : decode mM_limits.2.1 20 = .ok (.bipush 10, 2) := by decide +kernel
theorem dM_limits_22 : decode mM_limits.2.1 22 = .ok (.if_icmp .ge 31, 3) := by decide +kernel
theorem dM_limits_25 : decode mM_limits.2.1 25 = .ok (.aload_n 0, 1) := by decide +kernel
theorem dM_limits_26 : decode mM_limits.2.1 26 = .ok (.iload_n 3, 1) := by decide +kernel
theorem dM_limits_27 : decode mM_limits.2.1 27 = .ok (.putfield 142, 3) := by decide +kernel
theorem dM_limits_30 : decode mM_limits.2.1 30 = .ok (.iload_n 2, 1) := by decide +kernel
theorem dM_limits_31 : decode mM_limits.2.1 31 = .ok (.aload_n 0, 1) := by decide +kernel
theorem dM_limits_32 : decode mM_limits.2.1 32 = .ok (.invokevirtual 216, 3) := by decide +kernel
theorem dM_limits_35 : decode mM_limits.2.1 35 = .ok (.ifCond .eq 9, 3) := by decide +kernel
theorem dM_limits_38 : decode mM_limits.2.1 38 = .ok (.iconst 1, 1) := by decide +kernel
theorem dM_limits_39 : decode mM_limits.2.1 39 = .ok (.iload_n 3, 1) := by decide +kernel
theorem dM_limits_40 : decode mM_limits.2.1 40 = .ok (.ishl, 1) := by decide +kernel
theorem dM_limits_41 : decode mM_limits.2.1 41 = .ok (.goto 4, 3) := by decide +kernel
theorem dM_limits_44 : decode mM_limits.2.1 44 = .ok (.iconst 0, 1) := by decide +kernel
theorem dM_limits_45 : decode mM_limits.2.1 45 = .ok (.ior, 1) := by decide +kernel
theorem dM_limits_46 : decode mM_limits.2.1 46 = .ok (.istore_n 2, 1) := by decide +kernel
theorem dM_limits_47 : decode mM_limits.2.1 47 = .ok (.iinc 3 1, 3) := by decide +kernel
theorem dM_limits_50 : decode mM_limits.2.1 50 = .ok (.goto (-31), 3) := by decide +kernel
theorem dM_limits_53 : decode mM_limits.2.1 53 = .ok (.aload_n 0, 1) := by decide +kernel
theorem dM_limits_54 : decode mM_limits.2.1 54 = .ok (.iload_n 1, 1) := by decide +kernel
theorem dM_limits_55 : decode mM_limits.2.1 55 = .ok (.putfield 142, 3) := by decide +kernel
theorem dM_limits_58 : decode mM_limits.2.1 58 = .ok (.iload_n 2, 1) := by decide +kernel
theorem dM_limits_59 : decode mM_limits.2.1 59 = .ok (.ireturn, 1) := by decide +kernel
theorem dM_lose_0 : decode mM_lose.2.1 0 = .ok (.iload_n 1, 1) := by decide +kernel
theorem dM_lose_1 : decode mM_lose.2.1 1 = .ok (.invokestatic 123, 3) := by decide +kernel
theorem dM_lose_4 : decode mM_lose.2.1 4 = .ok (.ifCond .eq 5, 3) := by decide +kernel
theorem dM_lose_7 : decode mM_lose.2.1 7 = .ok (.iconst (-1), 1) := by decide +kernel
theorem dM_lose_8 : decode mM_lose.2.1 8 = .ok (.ireturn, 1) := by decide +kernel
theorem dM_lose_9 : decode mM_lose.2.1 9 = .ok (.aload_n 0, 1) := by decide +kernel
theorem dM_lose_10 : decode mM_lose.2.1 10 = .ok (.getfield 53, 3) := by decide +kernel
theorem dM_lose_13 : decode mM_lose.2.1 13 = .ok (.iload_n 1, 1) := by decide +kernel
theorem dM_lose_14 : decode mM_lose.2.1 14 = .ok (.iaload, 1) := by decide +kernel
theorem dM_lose_15 : decode mM_lose.2.1 15 = .ok (.ifCond .ge 7, 3) := by decide +kernel
theorem dM_lose_18 : decode mM_lose.2.1 18 = .ok (.iconst 0, 1) := by decide +kernel
theorem dM_lose_19 : decode mM_lose.2.1 19 = .ok (.goto 4, 3) := by decide +kernel
theorem dM_lose_22 : decode mM_lose.2.1 22 = .ok (.iconst 1, 1) := by decide +kernel
theorem dM_lose_23 : decode mM_lose.2.1 23 = .ok (.istore_n 2, 1) := by decide +kernel
theorem dM_lose_24 : decode mM_lose.2.1 24 = .ok (.aload_n 0, 1) := by decide +kernel
theorem dM_lose_25 : decode mM_lose.2.1 25 = .ok (.getfield 53, 3) := by decide +kernel
theorem dM_lose_28 : decode mM_lose.2.1 28 = .ok (.iload_n 1, 1) := by decide +kernel
theorem dM_lose_29 : decode mM_lose.2.1 29 = .ok (.iconst (-1), 1) := by decide +kernel
theorem dM_lose_30 : decode mM_lose.2.1 30 = .ok (.iastore, 1) := by decide +kernel
theorem dM_lose_31 : decode mM_lose.2.1 31 = .ok (.iload_n 2, 1) := by decide +kernel
theorem dM_lose_32 : decode mM_lose.2.1 32 = .ok (.ireturn, 1) := by decide +kernel
theorem dM_losersOf_0 : decode mM_losersOf.2.1 0 = .ok (.iconst 0, 1) := by decide +kernel
theorem dM_losersOf_1 : decode mM_losersOf.2.1 1 = .ok (.istore_n 2, 1) := by decide +kernel
theorem dM_losersOf_2 : decode mM_losersOf.2.1 2 = .ok (.iconst 0, 1) := by decide +kernel
theorem dM_losersOf_3 : decode mM_losersOf.2.1 3 = .ok (.istore_n 3, 1) := by decide +kernel
theorem dM_losersOf_4 : decode mM_losersOf.2.1 4 = .ok (.iload_n 3, 1) := by decide +kernel
theorem dM_losersOf_5 : decode mM_losersOf.2.1 5 = .ok (.aload_n 0, 1) := by decide +kernel
theorem dM_losersOf_6 : decode mM_losersOf.2.1 6 = .ok (.getfield 75, 3) := by decide +kernel
theorem dM_losersOf_9 : decode mM_losersOf.2.1 9 = .ok (.if_icmp .ge 28, 3) := by decide +kernel
theorem dM_losersOf_12 : decode mM_losersOf.2.1 12 = .ok (.iload_n 2, 1) := by decide +kernel
theorem dM_losersOf_13 : decode mM_losersOf.2.1 13 = .ok (.aload_n 0, 1) := by decide +kernel
theorem dM_losersOf_14 : decode mM_losersOf.2.1 14 = .ok (.iload_n 3, 1) := by decide +kernel
theorem dM_losersOf_15 : decode mM_losersOf.2.1 15 = .ok (.iload_n 1, 1) := by decide +kernel
theorem dM_losersOf_16 : decode mM_losersOf.2.1 16 = .ok (.invokevirtual 151, 3) := by decide +kernel
theorem dM_losersOf_19 : decode mM_losersOf.2.1 19 = .ok (.ifCond .eq 9, 3) := by decide +kernel
theorem dM_losersOf_22 : decode mM_losersOf.2.1 22 = .ok (.iconst 1, 1) := by decide +kernel
theorem dM_losersOf_23 : decode mM_losersOf.2.1 23 = .ok (.iload_n 3, 1) := by decide +kernel
theorem dM_losersOf_24 : decode mM_losersOf.2.1 24 = .ok (.ishl, 1) := by decide +kernel
theorem dM_losersOf_25 : decode mM_losersOf.2.1 25 = .ok (.goto 4, 3) := by decide +kernel
theorem dM_losersOf_28 : decode mM_losersOf.2.1 28 = .ok (.iconst 0, 1) := by decide +kernel
theorem dM_losersOf_29 : decode mM_losersOf.2.1 29 = .ok (.ior, 1) := by decide +kernel
theorem dM_losersOf_30 : decode mM_losersOf.2.1 30 = .ok (.istore_n 2, 1) := by decide +kernel
theorem dM_losersOf_31 : decode mM_losersOf.2.1 31 = .ok (.iinc 3 1, 3) := by decide +kernel
theorem dM_losersOf_34 : decode mM_losersOf.2.1 34 = .ok (.goto (-30), 3) := by decide +kernel
theorem dM_losersOf_37 : decode mM_losersOf.2.1 37 = .ok (.iload_n 2, 1) := by decide +kernel
theorem dM_losersOf_38 : decode mM_losersOf.2.1 38 = .ok (.ireturn, 1) := by decide +kernel
theorem dM_lost_0 : decode mM_lost.2.1 0 = .ok (.ldc2_w 65, 3) := by decide +kernel
theorem dM_lost_3 : decode mM_lost.2.1 3 = .ok (.lreturn, 1) := by decide +kernel
theorem dM_many_0 : decode mM_many.2.1 0 = .ok (.iload_n 1, 1) := by decide +kernel
theorem dM_many_1 : decode mM_many.2.1 1 = .ok (.tableswitch 60 0 4 #[35, 40, 45, 50, 55], 35) := by decide +kernel
theorem dM_many_36 : decode mM_many.2.1 36 = .ok (.aload_n 0, 1) := by decide +kernel
theorem dM_many_37 : decode mM_many.2.1 37 = .ok (.getfield 75, 3) := by decide +kernel
theorem dM_many_40 : decode mM_many.2.1 40 = .ok (.ireturn, 1) := by decide +kernel
theorem dM_many_41 : decode mM_many.2.1 41 = .ok (.aload_n 0, 1) := by decide +kernel
theorem dM_many_42 : decode mM_many.2.1 42 = .ok (.getfield 82, 3) := by decide +kernel
theorem dM_many_45 : decode mM_many.2.1 45 = .ok (.ireturn, 1) := by decide +kernel
theorem dM_many_46 : decode mM_many.2.1 46 = .ok (.aload_n 0, 1) := by decide +kernel
theorem dM_many_47 : decode mM_many.2.1 47 = .ok (.getfield 139, 3) := by decide +kernel
theorem dM_many_50 : decode mM_many.2.1 50 = .ok (.ireturn, 1) := by decide +kernel
theorem dM_many_51 : decode mM_many.2.1 51 = .ok (.aload_n 0, 1) := by decide +kernel
theorem dM_many_52 : decode mM_many.2.1 52 = .ok (.getfield 142, 3) := by decide +kernel
theorem dM_many_55 : decode mM_many.2.1 55 = .ok (.ireturn, 1) := by decide +kernel
theorem dM_many_56 : decode mM_many.2.1 56 = .ok (.aload_n 0, 1) := by decide +kernel
theorem dM_many_57 : decode mM_many.2.1 57 = .ok (.getfield 145, 3) := by decide +kernel
theorem dM_many_60 : decode mM_many.2.1 60 = .ok (.ireturn, 1) := by decide +kernel
theorem dM_many_61 : decode mM_many.2.1 61 = .ok (.bipush (-2), 2) := by decide +kernel
theorem dM_many_63 : decode mM_many.2.1 63 = .ok (.ireturn, 1) := by decide +kernel
theorem dM_may_0 : decode mM_may.2.1 0 = .ok (.iload_n 1, 1) := by decide +kernel
theorem dM_may_1 : decode mM_may.2.1 1 = .ok (.invokestatic 123, 3) := by decide +kernel
theorem dM_may_4 : decode mM_may.2.1 4 = .ok (.ifCond .eq 9, 3) := by decide +kernel
theorem dM_may_7 : decode mM_may.2.1 7 = .ok (.aload_n 0, 1) := by decide +kernel
theorem dM_may_8 : decode mM_may.2.1 8 = .ok (.iconst (-1), 1) := by decide +kernel
theorem dM_may_9 : decode mM_may.2.1 9 = .ok (.invokevirtual 127, 3) := by decide +kernel
theorem dM_may_12 : decode mM_may.2.1 12 = .ok (.ireturn, 1) := by decide +kernel
theorem dM_may_13 : decode mM_may.2.1 13 = .ok (.iload_n 2, 1) := by decide +kernel
theorem dM_may_14 : decode mM_may.2.1 14 = .ok (.i2l, 1) := by decide +kernel
theorem dM_may_15 : decode mM_may.2.1 15 = .ok (.lconst 0, 1) := by decide +kernel
theorem dM_may_16 : decode mM_may.2.1 16 = .ok (.ldc2_w 130, 3) := by decide +kernel
theorem dM_may_19 : decode mM_may.2.1 19 = .ok (.invokestatic 78, 3) := by decide +kernel
theorem dM_may_22 : decode mM_may.2.1 22 = .ok (.ifCond .eq 29, 3) := by decide +kernel
theorem dM_may_25 : decode mM_may.2.1 25 = .ok (.iload 4, 2) := by decide +kernel
theorem dM_may_27 : decode mM_may.2.1 27 = .ok (.i2l, 1) := by decide +kernel
theorem dM_may_28 : decode mM_may.2.1 28 = .ok (.lconst 0, 1) := by decide +kernel
theorem dM_may_29 : decode mM_may.2.1 29 = .ok (.ldc2_w 182, 3) := by decide +kernel
theorem dM_may_32 : decode mM_may.2.1 32 = .ok (.invokestatic 78, 3) := by decide +kernel
theorem dM_may_35 : decode mM_may.2.1 35 = .ok (.ifCond .eq 16, 3) := by decide +kernel
theorem dM_may_38 : decode mM_may.2.1 38 = .ok (.iload 5, 2) := by decide +kernel
theorem dM_may_40 : decode mM_may.2.1 40 = .ok (.i2l, 1) := by decide +kernel
theorem dM_may_41 : decode mM_may.2.1 41 = .ok (.lconst 0, 1) := by decide +kernel
theorem dM_may_42 : decode mM_may.2.1 42 = .ok (.ldc2_w 165, 3) := by decide +kernel
theorem dM_may_45 : decode mM_may.2.1 45 = .ok (.invokestatic 78, 3) := by decide +kernel
theorem dM_may_48 : decode mM_may.2.1 48 = .ok (.ifCond .ne 10, 3) := by decide +kernel
theorem dM_may_51 : decode mM_may.2.1 51 = .ok (.aload_n 0, 1) := by decide +kernel
theorem dM_may_52 : decode mM_may.2.1 52 = .ok (.bipush (-2), 2) := by decide +kernel
theorem dM_may_54 : decode mM_may.2.1 54 = .ok (.invokevirtual 127, 3) := by decide +kernel
theorem dM_may_57 : decode mM_may.2.1 57 = .ok (.ireturn, 1) := by decide +kernel
theorem dM_may_58 : decode mM_may.2.1 58 = .ok (.aload_n 0, 1) := by decide +kernel
theorem dM_may_59 : decode mM_may.2.1 59 = .ok (.getfield 75, 3) := by decide +kernel
theorem dM_may_62 : decode mM_may.2.1 62 = .ok (.ifCond .ne 10, 3) := by decide +kernel
theorem dM_may_65 : decode mM_may.2.1 65 = .ok (.aload_n 0, 1) := by decide +kernel
theorem dM_may_66 : decode mM_may.2.1 66 = .ok (.bipush (-3), 2) := by decide +kernel
theorem dM_may_68 : decode mM_may.2.1 68 = .ok (.invokevirtual 127, 3) := by decide +kernel
theorem dM_may_71 : decode mM_may.2.1 71 = .ok (.ireturn, 1) := by decide +kernel
theorem dM_may_72 : decode mM_may.2.1 72 = .ok (.aload_n 0, 1) := by decide +kernel
theorem dM_may_73 : decode mM_may.2.1 73 = .ok (.iload_n 1, 1) := by decide +kernel
theorem dM_may_74 : decode mM_may.2.1 74 = .ok (.iload_n 2, 1) := by decide +kernel
theorem dM_may_75 : decode mM_may.2.1 75 = .ok (.iload_n 3, 1) := by decide +kernel
theorem dM_may_76 : decode mM_may.2.1 76 = .ok (.iload 4, 2) := by decide +kernel
theorem dM_may_78 : decode mM_may.2.1 78 = .ok (.invokevirtual 186, 3) := by decide +kernel
theorem dM_may_81 : decode mM_may.2.1 81 = .ok (.istore 6, 2) := by decide +kernel
theorem dM_may_83 : decode mM_may.2.1 83 = .ok (.iload 6, 2) := by decide +kernel
theorem dM_may_85 : decode mM_may.2.1 85 = .ok (.ifCond .ge 6, 3) := by decide +kernel
theorem dM_may_88 : decode mM_may.2.1 88 = .ok (.iload 6, 2) := by decide +kernel
theorem dM_may_90 : decode mM_may.2.1 90 = .ok (.ireturn, 1) := by decide +kernel
theorem dM_may_91 : decode mM_may.2.1 91 = .ok (.aload_n 0, 1) := by decide +kernel
theorem dM_may_92 : decode mM_may.2.1 92 = .ok (.bipush 60, 2) := by decide +kernel
theorem dM_may_94 : decode mM_may.2.1 94 = .ok (.iload_n 1, 1) := by decide +kernel
theorem dM_may_95 : decode mM_may.2.1 95 = .ok (.imul, 1) := by decide +kernel
theorem dM_may_96 : decode mM_may.2.1 96 = .ok (.iload_n 3, 1) := by decide +kernel
theorem dM_may_97 : decode mM_may.2.1 97 = .ok (.iadd, 1) := by decide +kernel
theorem dM_may_98 : decode mM_may.2.1 98 = .ok (.iload 4, 2) := by decide +kernel
theorem dM_may_100 : decode mM_may.2.1 100 = .ok (.iload 5, 2) := by decide +kernel
theorem dM_may_102 : decode mM_may.2.1 102 = .ok (.iload 5, 2) := by decide +kernel
theorem dM_may_104 : decode mM_may.2.1 104 = .ok (.invokevirtual 193, 3) := by decide +kernel
theorem dM_may_107 : decode mM_may.2.1 107 = .ok (.istore 7, 2) := by decide +kernel
theorem dM_may_109 : decode mM_may.2.1 109 = .ok (.aload_n 0, 1) := by decide +kernel
theorem dM_may_110 : decode mM_may.2.1 110 = .ok (.getfield 167, 3) := by decide +kernel
theorem dM_may_113 : decode mM_may.2.1 113 = .ok (.ifCond .ge 8, 3) := by decide +kernel
theorem dM_may_116 : decode mM_may.2.1 116 = .ok (.iload 7, 2) := by decide +kernel
theorem dM_may_118 : decode mM_may.2.1 118 = .ok (.goto 10, 3) := by decide +kernel
theorem dM_may_121 : decode mM_may.2.1 121 = .ok (.bipush (-100), 2) := by decide +kernel
theorem dM_may_123 : decode mM_may.2.1 123 = .ok (.aload_n 0, 1) := by decide +kernel
theorem dM_may_124 : decode mM_may.2.1 124 = .ok (.getfield 167, 3) := by decide +kernel
theorem dM_may_127 : decode mM_may.2.1 127 = .ok (.isub, 1) := by decide +kernel
theorem dM_may_128 : decode mM_may.2.1 128 = .ok (.ireturn, 1) := by decide +kernel
theorem dM_noCell_0 : decode mM_noCell.2.1 0 = .ok (.aload_n 0, 1) := by decide +kernel
theorem dM_noCell_1 : decode mM_noCell.2.1 1 = .ok (.getfield 53, 3) := by decide +kernel
theorem dM_noCell_4 : decode mM_noCell.2.1 4 = .ok (.iload_n 1, 1) := by decide +kernel
theorem dM_noCell_5 : decode mM_noCell.2.1 5 = .ok (.iaload, 1) := by decide +kernel
theorem dM_noCell_6 : decode mM_noCell.2.1 6 = .ok (.ifCond .ge 7, 3) := by decide +kernel
theorem dM_noCell_9 : decode mM_noCell.2.1 9 = .ok (.iconst 1, 1) := by decide +kernel
theorem dM_noCell_10 : decode mM_noCell.2.1 10 = .ok (.goto 26, 3) := by decide +kernel
theorem dM_noCell_13 : decode mM_noCell.2.1 13 = .ok (.iload_n 2, 1) := by decide +kernel
theorem dM_noCell_14 : decode mM_noCell.2.1 14 = .ok (.i2l, 1) := by decide +kernel
theorem dM_noCell_15 : decode mM_noCell.2.1 15 = .ok (.lconst 0, 1) := by decide +kernel
theorem dM_noCell_16 : decode mM_noCell.2.1 16 = .ok (.aload_n 0, 1) := by decide +kernel
theorem dM_noCell_17 : decode mM_noCell.2.1 17 = .ok (.getfield 53, 3) := by decide +kernel
theorem dM_noCell_20 : decode mM_noCell.2.1 20 = .ok (.iload_n 1, 1) := by decide +kernel
theorem dM_noCell_21 : decode mM_noCell.2.1 21 = .ok (.iaload, 1) := by decide +kernel
theorem dM_noCell_22 : decode mM_noCell.2.1 22 = .ok (.i2l, 1) := by decide +kernel
theorem dM_noCell_23 : decode mM_noCell.2.1 23 = .ok (.lconst 1, 1) := by decide +kernel
theorem dM_noCell_24 : decode mM_noCell.2.1 24 = .ok (.lsub, 1) := by decide +kernel
theorem dM_noCell_25 : decode mM_noCell.2.1 25 = .ok (.invokestatic 78, 3) := by decide +kernel
theorem dM_noCell_28 : decode mM_noCell.2.1 28 = .ok (.ifCond .eq 7, 3) := by decide +kernel
theorem dM_noCell_31 : decode mM_noCell.2.1 31 = .ok (.iconst 0, 1) := by decide +kernel
theorem dM_noCell_32 : decode mM_noCell.2.1 32 = .ok (.goto 4, 3) := by decide +kernel
theorem dM_noCell_35 : decode mM_noCell.2.1 35 = .ok (.iconst 3, 1) := by decide +kernel
theorem dM_noCell_36 : decode mM_noCell.2.1 36 = .ok (.ireturn, 1) := by decide +kernel
theorem dM_noDoing_0 : decode mM_noDoing.2.1 0 = .ok (.iload_n 1, 1) := by decide +kernel
theorem dM_noDoing_1 : decode mM_noDoing.2.1 1 = .ok (.i2l, 1) := by decide +kernel
theorem dM_noDoing_2 : decode mM_noDoing.2.1 2 = .ok (.lconst 0, 1) := by decide +kernel
theorem dM_noDoing_3 : decode mM_noDoing.2.1 3 = .ok (.aload_n 0, 1) := by decide +kernel
theorem dM_noDoing_4 : decode mM_noDoing.2.1 4 = .ok (.getfield 82, 3) := by decide +kernel
theorem dM_noDoing_7 : decode mM_noDoing.2.1 7 = .ok (.i2l, 1) := by decide +kernel
theorem dM_noDoing_8 : decode mM_noDoing.2.1 8 = .ok (.lconst 1, 1) := by decide +kernel
theorem dM_noDoing_9 : decode mM_noDoing.2.1 9 = .ok (.lsub, 1) := by decide +kernel
theorem dM_noDoing_10 : decode mM_noDoing.2.1 10 = .ok (.invokestatic 78, 3) := by decide +kernel
theorem dM_noDoing_13 : decode mM_noDoing.2.1 13 = .ok (.ifCond .ne 7, 3) := by decide +kernel
theorem dM_noDoing_16 : decode mM_noDoing.2.1 16 = .ok (.iconst 1, 1) := by decide +kernel
theorem dM_noDoing_17 : decode mM_noDoing.2.1 17 = .ok (.goto 4, 3) := by decide +kernel
theorem dM_noDoing_20 : decode mM_noDoing.2.1 20 = .ok (.iconst 0, 1) := by decide +kernel
theorem dM_noDoing_21 : decode mM_noDoing.2.1 21 = .ok (.ireturn, 1) := by decide +kernel
theorem dM_noGuest_0 : decode mM_noGuest.2.1 0 = .ok (.iload_n 1, 1) := by decide +kernel
theorem dM_noGuest_1 : decode mM_noGuest.2.1 1 = .ok (.i2l, 1) := by decide +kernel
theorem dM_noGuest_2 : decode mM_noGuest.2.1 2 = .ok (.lconst 0, 1) := by decide +kernel
theorem dM_noGuest_3 : decode mM_noGuest.2.1 3 = .ok (.aload_n 0, 1) := by decide +kernel
theorem dM_noGuest_4 : decode mM_noGuest.2.1 4 = .ok (.getfield 75, 3) := by decide +kernel
theorem dM_noGuest_7 : decode mM_noGuest.2.1 7 = .ok (.i2l, 1) := by decide +kernel
theorem dM_noGuest_8 : decode mM_noGuest.2.1 8 = .ok (.lconst 1, 1) := by decide +kernel
theorem dM_noGuest_9 : decode mM_noGuest.2.1 9 = .ok (.lsub, 1) := by decide +kernel
theorem dM_noGuest_10 : decode mM_noGuest.2.1 10 = .ok (.invokestatic 78, 3) := by decide +kernel
theorem dM_noGuest_13 : decode mM_noGuest.2.1 13 = .ok (.ifCond .ne 7, 3) := by decide +kernel
theorem dM_noGuest_16 : decode mM_noGuest.2.1 16 = .ok (.iconst 1, 1) := by decide +kernel
theorem dM_noGuest_17 : decode mM_noGuest.2.1 17 = .ok (.goto 4, 3) := by decide +kernel
theorem dM_noGuest_20 : decode mM_noGuest.2.1 20 = .ok (.iconst 0, 1) := by decide +kernel
theorem dM_noGuest_21 : decode mM_noGuest.2.1 21 = .ok (.ireturn, 1) := by decide +kernel
theorem dM_noSheet_0 : decode mM_noSheet.2.1 0 = .ok (.iload_n 0, 1) := by decide +kernel
theorem dM_noSheet_1 : decode mM_noSheet.2.1 1 = .ok (.i2l, 1) := by decide +kernel
theorem dM_noSheet_2 : decode mM_noSheet.2.1 2 = .ok (.lconst 0, 1) := by decide +kernel
theorem dM_noSheet_3 : decode mM_noSheet.2.1 3 = .ok (.ldc2_w 227, 3) := by decide +kernel
theorem dM_noSheet_6 : decode mM_noSheet.2.1 6 = .ok (.invokestatic 78, 3) := by decide +kernel
theorem dM_noSheet_9 : decode mM_noSheet.2.1 9 = .ok (.ifCond .ne 7, 3) := by decide +kernel
theorem dM_noSheet_12 : decode mM_noSheet.2.1 12 = .ok (.iconst 1, 1) := by decide +kernel
theorem dM_noSheet_13 : decode mM_noSheet.2.1 13 = .ok (.goto 4, 3) := by decide +kernel
theorem dM_noSheet_16 : decode mM_noSheet.2.1 16 = .ok (.iconst 0, 1) := by decide +kernel
theorem dM_noSheet_17 : decode mM_noSheet.2.1 17 = .ok (.ireturn, 1) := by decide +kernel
theorem dM_odds_0 : decode mM_odds.2.1 0 = .ok (.iload_n 1, 1) := by decide +kernel
theorem dM_odds_1 : decode mM_odds.2.1 1 = .ok (.invokestatic 123, 3) := by decide +kernel
theorem dM_odds_4 : decode mM_odds.2.1 4 = .ok (.ifCond .ne 56, 3) := by decide +kernel
theorem dM_odds_7 : decode mM_odds.2.1 7 = .ok (.iload_n 2, 1) := by decide +kernel
theorem dM_odds_8 : decode mM_odds.2.1 8 = .ok (.i2l, 1) := by decide +kernel
theorem dM_odds_9 : decode mM_odds.2.1 9 = .ok (.lconst 0, 1) := by decide +kernel
theorem dM_odds_10 : decode mM_odds.2.1 10 = .ok (.ldc2_w 130, 3) := by decide +kernel
theorem dM_odds_13 : decode mM_odds.2.1 13 = .ok (.invokestatic 78, 3) := by decide +kernel
theorem dM_odds_16 : decode mM_odds.2.1 16 = .ok (.ifCond .eq 44, 3) := by decide +kernel
theorem dM_odds_19 : decode mM_odds.2.1 19 = .ok (.iload 4, 2) := by decide +kernel
theorem dM_odds_21 : decode mM_odds.2.1 21 = .ok (.i2l, 1) := by decide +kernel
theorem dM_odds_22 : decode mM_odds.2.1 22 = .ok (.lconst 0, 1) := by decide +kernel
theorem dM_odds_23 : decode mM_odds.2.1 23 = .ok (.ldc2_w 182, 3) := by decide +kernel
theorem dM_odds_26 : decode mM_odds.2.1 26 = .ok (.invokestatic 78, 3) := by decide +kernel
theorem dM_odds_29 : decode mM_odds.2.1 29 = .ok (.ifCond .eq 31, 3) := by decide +kernel
theorem dM_odds_32 : decode mM_odds.2.1 32 = .ok (.iload 5, 2) := by decide +kernel
theorem dM_odds_34 : decode mM_odds.2.1 34 = .ok (.i2l, 1) := by decide +kernel
theorem dM_odds_35 : decode mM_odds.2.1 35 = .ok (.lconst 0, 1) := by decide +kernel
theorem dM_odds_36 : decode mM_odds.2.1 36 = .ok (.ldc2_w 165, 3) := by decide +kernel
theorem dM_odds_39 : decode mM_odds.2.1 39 = .ok (.invokestatic 78, 3) := by decide +kernel
theorem dM_odds_42 : decode mM_odds.2.1 42 = .ok (.ifCond .eq 18, 3) := by decide +kernel
theorem dM_odds_45 : decode mM_odds.2.1 45 = .ok (.iload 6, 2) := by decide +kernel
theorem dM_odds_47 : decode mM_odds.2.1 47 = .ok (.i2l, 1) := by decide +kernel
theorem dM_odds_48 : decode mM_odds.2.1 48 = .ok (.lconst 0, 1) := by decide +kernel
theorem dM_odds_49 : decode mM_odds.2.1 49 = .ok (.lconst 1, 1) := by decide +kernel
theorem dM_odds_50 : decode mM_odds.2.1 50 = .ok (.invokestatic 78, 3) := by decide +kernel
theorem dM_odds_53 : decode mM_odds.2.1 53 = .ok (.ifCond .eq 7, 3) := by decide +kernel
theorem dM_odds_56 : decode mM_odds.2.1 56 = .ok (.iconst 1, 1) := by decide +kernel
theorem dM_odds_57 : decode mM_odds.2.1 57 = .ok (.goto 4, 3) := by decide +kernel
theorem dM_odds_60 : decode mM_odds.2.1 60 = .ok (.iconst 0, 1) := by decide +kernel
theorem dM_odds_61 : decode mM_odds.2.1 61 = .ok (.istore 7, 2) := by decide +kernel
theorem dM_odds_63 : decode mM_odds.2.1 63 = .ok (.iload 7, 2) := by decide +kernel
theorem dM_odds_65 : decode mM_odds.2.1 65 = .ok (.ifCond .eq 10, 3) := by decide +kernel
theorem dM_odds_68 : decode mM_odds.2.1 68 = .ok (.aload_n 0, 1) := by decide +kernel
theorem dM_odds_69 : decode mM_odds.2.1 69 = .ok (.getfield 75, 3) := by decide +kernel
theorem dM_odds_72 : decode mM_odds.2.1 72 = .ok (.ifCond .ne 8, 3) := by decide +kernel
theorem dM_odds_75 : decode mM_odds.2.1 75 = .ok (.aload_n 0, 1) := by decide +kernel
theorem dM_odds_76 : decode mM_odds.2.1 76 = .ok (.invokevirtual 220, 3) := by decide +kernel
theorem dM_odds_79 : decode mM_odds.2.1 79 = .ok (.lreturn, 1) := by decide +kernel
theorem dM_odds_80 : decode mM_odds.2.1 80 = .ok (.aload_n 0, 1) := by decide +kernel
theorem dM_odds_81 : decode mM_odds.2.1 81 = .ok (.iload_n 1, 1) := by decide +kernel
theorem dM_odds_82 : decode mM_odds.2.1 82 = .ok (.iload_n 2, 1) := by decide +kernel
theorem dM_odds_83 : decode mM_odds.2.1 83 = .ok (.iload_n 3, 1) := by decide +kernel
theorem dM_odds_84 : decode mM_odds.2.1 84 = .ok (.iload 4, 2) := by decide +kernel
theorem dM_odds_86 : decode mM_odds.2.1 86 = .ok (.invokevirtual 186, 3) := by decide +kernel
theorem dM_odds_89 : decode mM_odds.2.1 89 = .ok (.ifCond .ge 7, 3) := by decide +kernel
theorem dM_odds_92 : decode mM_odds.2.1 92 = .ok (.invokestatic 71, 3) := by decide +kernel
theorem dM_odds_95 : decode mM_odds.2.1 95 = .ok (.lreturn, 1) := by decide +kernel
theorem dM_odds_96 : decode mM_odds.2.1 96 = .ok (.aload_n 0, 1) := by decide +kernel
theorem dM_odds_97 : decode mM_odds.2.1 97 = .ok (.bipush 60, 2) := by decide +kernel
theorem dM_odds_99 : decode mM_odds.2.1 99 = .ok (.iload_n 1, 1) := by decide +kernel
theorem dM_odds_100 : decode mM_odds.2.1 100 = .ok (.imul, 1) := by decide +kernel
theorem dM_odds_101 : decode mM_odds.2.1 101 = .ok (.iload_n 3, 1) := by decide +kernel
theorem dM_odds_102 : decode mM_odds.2.1 102 = .ok (.iadd, 1) := by decide +kernel
theorem dM_odds_103 : decode mM_odds.2.1 103 = .ok (.iload 4, 2) := by decide +kernel
theorem dM_odds_105 : decode mM_odds.2.1 105 = .ok (.iload 5, 2) := by decide +kernel
theorem dM_odds_107 : decode mM_odds.2.1 107 = .ok (.iconst 5, 1) := by decide +kernel
theorem dM_odds_108 : decode mM_odds.2.1 108 = .ok (.invokevirtual 193, 3) := by decide +kernel
theorem dM_odds_111 : decode mM_odds.2.1 111 = .ok (.istore 8, 2) := by decide +kernel
theorem dM_odds_113 : decode mM_odds.2.1 113 = .ok (.aload_n 0, 1) := by decide +kernel
theorem dM_odds_114 : decode mM_odds.2.1 114 = .ok (.getfield 167, 3) := by decide +kernel
theorem dM_odds_117 : decode mM_odds.2.1 117 = .ok (.ifCond .lt 7, 3) := by decide +kernel
theorem dM_odds_120 : decode mM_odds.2.1 120 = .ok (.invokestatic 71, 3) := by decide +kernel
theorem dM_odds_123 : decode mM_odds.2.1 123 = .ok (.lreturn, 1) := by decide +kernel
theorem dM_odds_124 : decode mM_odds.2.1 124 = .ok (.lconst 0, 1) := by decide +kernel
theorem dM_odds_125 : decode mM_odds.2.1 125 = .ok (.lstore 9, 2) := by decide +kernel
theorem dM_odds_127 : decode mM_odds.2.1 127 = .ok (.iconst 0, 1) := by decide +kernel
theorem dM_odds_128 : decode mM_odds.2.1 128 = .ok (.istore 11, 2) := by decide +kernel
theorem dM_odds_130 : decode mM_odds.2.1 130 = .ok (.iload 11, 2) := by decide +kernel
theorem dM_odds_132 : decode mM_odds.2.1 132 = .ok (.aload_n 0, 1) := by decide +kernel
theorem dM_odds_133 : decode mM_odds.2.1 133 = .ok (.getfield 75, 3) := by decide +kernel
theorem dM_odds_136 : decode mM_odds.2.1 136 = .ok (.if_icmp .ge 29, 3) := by decide +kernel
theorem dM_odds_139 : decode mM_odds.2.1 139 = .ok (.lload 9, 2) := by decide +kernel
theorem dM_odds_141 : decode mM_odds.2.1 141 = .ok (.iload 8, 2) := by decide +kernel
theorem dM_odds_143 : decode mM_odds.2.1 143 = .ok (.iload 11, 2) := by decide +kernel
theorem dM_odds_145 : decode mM_odds.2.1 145 = .ok (.invokestatic 200, 3) := by decide +kernel
theorem dM_odds_148 : decode mM_odds.2.1 148 = .ok (.ifCond .eq 7, 3) := by decide +kernel
theorem dM_odds_151 : decode mM_odds.2.1 151 = .ok (.lconst 1, 1) := by decide +kernel
theorem dM_odds_152 : decode mM_odds.2.1 152 = .ok (.goto 4, 3) := by decide +kernel
theorem dM_odds_155 : decode mM_odds.2.1 155 = .ok (.lconst 0, 1) := by decide +kernel
theorem dM_odds_156 : decode mM_odds.2.1 156 = .ok (.ladd, 1) := by decide +kernel
theorem dM_odds_157 : decode mM_odds.2.1 157 = .ok (.lstore 9, 2) := by decide +kernel
theorem dM_odds_159 : decode mM_odds.2.1 159 = .ok (.iinc 11 1, 3) := by decide +kernel
theorem dM_odds_162 : decode mM_odds.2.1 162 = .ok (.goto (-32), 3) := by decide +kernel
theorem dM_odds_165 : decode mM_odds.2.1 165 = .ok (.lload 9, 2) := by decide +kernel
theorem dM_odds_167 : decode mM_odds.2.1 167 = .ok (.aload_n 0, 1) := by decide +kernel
theorem dM_odds_168 : decode mM_odds.2.1 168 = .ok (.getfield 75, 3) := by decide +kernel
theorem dM_odds_171 : decode mM_odds.2.1 171 = .ok (.i2l, 1) := by decide +kernel
theorem dM_odds_172 : decode mM_odds.2.1 172 = .ok (.iload 6, 2) := by decide +kernel
theorem dM_odds_174 : decode mM_odds.2.1 174 = .ok (.invokestatic 223, 3) := by decide +kernel
theorem dM_odds_177 : decode mM_odds.2.1 177 = .ok (.lreturn, 1) := by decide +kernel
theorem dM_ofDoing_0 : decode mM_ofDoing.2.1 0 = .ok (.aload_n 0, 1) := by decide +kernel
theorem dM_ofDoing_1 : decode mM_ofDoing.2.1 1 = .ok (.iload_n 1, 1) := by decide +kernel
theorem dM_ofDoing_2 : decode mM_ofDoing.2.1 2 = .ok (.invokevirtual 157, 3) := by decide +kernel
theorem dM_ofDoing_5 : decode mM_ofDoing.2.1 5 = .ok (.ifCond .eq 5, 3) := by decide +kernel
theorem dM_ofDoing_8 : decode mM_ofDoing.2.1 8 = .ok (.iconst (-1), 1) := by decide +kernel
theorem dM_ofDoing_9 : decode mM_ofDoing.2.1 9 = .ok (.ireturn, 1) := by decide +kernel
theorem dM_ofDoing_10 : decode mM_ofDoing.2.1 10 = .ok (.iload_n 2, 1) := by decide +kernel
theorem dM_ofDoing_11 : decode mM_ofDoing.2.1 11 = .ok (.ifCond .ne 12, 3) := by decide +kernel
theorem dM_ofDoing_14 : decode mM_ofDoing.2.1 14 = .ok (.aload_n 0, 1) := by decide +kernel
theorem dM_ofDoing_15 : decode mM_ofDoing.2.1 15 = .ok (.getfield 7, 3) := by decide +kernel
theorem dM_ofDoing_18 : decode mM_ofDoing.2.1 18 = .ok (.iload_n 1, 1) := by decide +kernel
theorem dM_ofDoing_19 : decode mM_ofDoing.2.1 19 = .ok (.iaload, 1) := by decide +kernel
theorem dM_ofDoing_20 : decode mM_ofDoing.2.1 20 = .ok (.goto 32, 3) := by decide +kernel
theorem dM_ofDoing_23 : decode mM_ofDoing.2.1 23 = .ok (.iload_n 2, 1) := by decide +kernel
theorem dM_ofDoing_24 : decode mM_ofDoing.2.1 24 = .ok (.iconst 1, 1) := by decide +kernel
theorem dM_ofDoing_25 : decode mM_ofDoing.2.1 25 = .ok (.if_icmp .ne 12, 3) := by decide +kernel
theorem dM_ofDoing_28 : decode mM_ofDoing.2.1 28 = .ok (.aload_n 0, 1) := by decide +kernel
theorem dM_ofDoing_29 : decode mM_ofDoing.2.1 29 = .ok (.getfield 13, 3) := by decide +kernel
theorem dM_ofDoing_32 : decode mM_ofDoing.2.1 32 = .ok (.iload_n 1, 1) := by decide +kernel
theorem dM_ofDoing_33 : decode mM_ofDoing.2.1 33 = .ok (.iaload, 1) := by decide +kernel
theorem dM_ofDoing_34 : decode mM_ofDoing.2.1 34 = .ok (.goto 18, 3) := by decide +kernel
theorem dM_ofDoing_37 : decode mM_ofDoing.2.1 37 = .ok (.iload_n 2, 1) := by decide +kernel
theorem dM_ofDoing_38 : decode mM_ofDoing.2.1 38 = .ok (.iconst 2, 1) := by decide +kernel
theorem dM_ofDoing_39 : decode mM_ofDoing.2.1 39 = .ok (.if_icmp .ne 11, 3) := by decide +kernel
theorem dM_ofDoing_42 : decode mM_ofDoing.2.1 42 = .ok (.aload_n 0, 1) := by decide +kernel
theorem dM_ofDoing_43 : decode mM_ofDoing.2.1 43 = .ok (.iload_n 1, 1) := by decide +kernel
theorem dM_ofDoing_44 : decode mM_ofDoing.2.1 44 = .ok (.invokevirtual 160, 3) := by decide +kernel
theorem dM_ofDoing_47 : decode mM_ofDoing.2.1 47 = .ok (.goto 5, 3) := by decide +kernel
theorem dM_ofDoing_50 : decode mM_ofDoing.2.1 50 = .ok (.bipush (-2), 2) := by decide +kernel
theorem dM_ofDoing_52 : decode mM_ofDoing.2.1 52 = .ok (.ireturn, 1) := by decide +kernel
theorem dM_ofGuest_0 : decode mM_ofGuest.2.1 0 = .ok (.aload_n 0, 1) := by decide +kernel
theorem dM_ofGuest_1 : decode mM_ofGuest.2.1 1 = .ok (.iload_n 1, 1) := by decide +kernel
theorem dM_ofGuest_2 : decode mM_ofGuest.2.1 2 = .ok (.invokevirtual 154, 3) := by decide +kernel
theorem dM_ofGuest_5 : decode mM_ofGuest.2.1 5 = .ok (.ifCond .eq 5, 3) := by decide +kernel
theorem dM_ofGuest_8 : decode mM_ofGuest.2.1 8 = .ok (.iconst (-1), 1) := by decide +kernel
theorem dM_ofGuest_9 : decode mM_ofGuest.2.1 9 = .ok (.ireturn, 1) := by decide +kernel
theorem dM_ofGuest_10 : decode mM_ofGuest.2.1 10 = .ok (.iload_n 2, 1) := by decide +kernel
theorem dM_ofGuest_11 : decode mM_ofGuest.2.1 11 = .ok (.ifCond .ne 12, 3) := by decide +kernel
theorem dM_ofGuest_14 : decode mM_ofGuest.2.1 14 = .ok (.aload_n 0, 1) := by decide +kernel
theorem dM_ofGuest_15 : decode mM_ofGuest.2.1 15 = .ok (.getfield 16, 3) := by decide +kernel
theorem dM_ofGuest_18 : decode mM_ofGuest.2.1 18 = .ok (.iload_n 1, 1) := by decide +kernel
theorem dM_ofGuest_19 : decode mM_ofGuest.2.1 19 = .ok (.iaload, 1) := by decide +kernel
theorem dM_ofGuest_20 : decode mM_ofGuest.2.1 20 = .ok (.goto 33, 3) := by decide +kernel
theorem dM_ofGuest_23 : decode mM_ofGuest.2.1 23 = .ok (.iload_n 2, 1) := by decide +kernel
theorem dM_ofGuest_24 : decode mM_ofGuest.2.1 24 = .ok (.iconst 1, 1) := by decide +kernel
theorem dM_ofGuest_25 : decode mM_ofGuest.2.1 25 = .ok (.if_icmp .ne 12, 3) := by decide +kernel
theorem dM_ofGuest_28 : decode mM_ofGuest.2.1 28 = .ok (.aload_n 0, 1) := by decide +kernel
theorem dM_ofGuest_29 : decode mM_ofGuest.2.1 29 = .ok (.getfield 19, 3) := by decide +kernel
theorem dM_ofGuest_32 : decode mM_ofGuest.2.1 32 = .ok (.iload_n 1, 1) := by decide +kernel
theorem dM_ofGuest_33 : decode mM_ofGuest.2.1 33 = .ok (.iaload, 1) := by decide +kernel
theorem dM_ofGuest_34 : decode mM_ofGuest.2.1 34 = .ok (.goto 19, 3) := by decide +kernel
theorem dM_ofGuest_37 : decode mM_ofGuest.2.1 37 = .ok (.iload_n 2, 1) := by decide +kernel
theorem dM_ofGuest_38 : decode mM_ofGuest.2.1 38 = .ok (.iconst 2, 1) := by decide +kernel
theorem dM_ofGuest_39 : decode mM_ofGuest.2.1 39 = .ok (.if_icmp .ne 12, 3) := by decide +kernel
theorem dM_ofGuest_42 : decode mM_ofGuest.2.1 42 = .ok (.aload_n 0, 1) := by decide +kernel
theorem dM_ofGuest_43 : decode mM_ofGuest.2.1 43 = .ok (.getfield 22, 3) := by decide +kernel
theorem dM_ofGuest_46 : decode mM_ofGuest.2.1 46 = .ok (.iload_n 1, 1) := by decide +kernel
theorem dM_ofGuest_47 : decode mM_ofGuest.2.1 47 = .ok (.iaload, 1) := by decide +kernel
theorem dM_ofGuest_48 : decode mM_ofGuest.2.1 48 = .ok (.goto 5, 3) := by decide +kernel
theorem dM_ofGuest_51 : decode mM_ofGuest.2.1 51 = .ok (.bipush (-2), 2) := by decide +kernel
theorem dM_ofGuest_53 : decode mM_ofGuest.2.1 53 = .ok (.ireturn, 1) := by decide +kernel
theorem dM_pairsBarred_0 : decode mM_pairsBarred.2.1 0 = .ok (.aload_n 0, 1) := by decide +kernel
theorem dM_pairsBarred_1 : decode mM_pairsBarred.2.1 1 = .ok (.iload_n 1, 1) := by decide +kernel
theorem dM_pairsBarred_2 : decode mM_pairsBarred.2.1 2 = .ok (.iload_n 2, 1) := by decide +kernel
theorem dM_pairsBarred_3 : decode mM_pairsBarred.2.1 3 = .ok (.iload_n 3, 1) := by decide +kernel
theorem dM_pairsBarred_4 : decode mM_pairsBarred.2.1 4 = .ok (.ldc2_w 130, 3) := by decide +kernel
theorem dM_pairsBarred_7 : decode mM_pairsBarred.2.1 7 = .ok (.iload 4, 2) := by decide +kernel
theorem dM_pairsBarred_9 : decode mM_pairsBarred.2.1 9 = .ok (.i2l, 1) := by decide +kernel
theorem dM_pairsBarred_10 : decode mM_pairsBarred.2.1 10 = .ok (.lmul, 1) := by decide +kernel
theorem dM_pairsBarred_11 : decode mM_pairsBarred.2.1 11 = .ok (.invokevirtual 132, 3) := by decide +kernel
theorem dM_pairsBarred_14 : decode mM_pairsBarred.2.1 14 = .ok (.istore 5, 2) := by decide +kernel
theorem dM_pairsBarred_16 : decode mM_pairsBarred.2.1 16 = .ok (.iload 5, 2) := by decide +kernel
theorem dM_pairsBarred_18 : decode mM_pairsBarred.2.1 18 = .ok (.ifCond .ge 6, 3) := by decide +kernel
theorem dM_pairsBarred_21 : decode mM_pairsBarred.2.1 21 = .ok (.iload 5, 2) := by decide +kernel
theorem dM_pairsBarred_23 : decode mM_pairsBarred.2.1 23 = .ok (.ireturn, 1) := by decide +kernel
theorem dM_pairsBarred_24 : decode mM_pairsBarred.2.1 24 = .ok (.iconst 0, 1) := by decide +kernel
theorem dM_pairsBarred_25 : decode mM_pairsBarred.2.1 25 = .ok (.istore 6, 2) := by decide +kernel
theorem dM_pairsBarred_27 : decode mM_pairsBarred.2.1 27 = .ok (.iload 6, 2) := by decide +kernel
theorem dM_pairsBarred_29 : decode mM_pairsBarred.2.1 29 = .ok (.iload 4, 2) := by decide +kernel
theorem dM_pairsBarred_31 : decode mM_pairsBarred.2.1 31 = .ok (.if_icmp .ge 58, 3) := by decide +kernel
theorem dM_pairsBarred_34 : decode mM_pairsBarred.2.1 34 = .ok (.bipush 60, 2) := by decide +kernel
theorem dM_pairsBarred_36 : decode mM_pairsBarred.2.1 36 = .ok (.iload_n 1, 1) := by decide +kernel
theorem dM_pairsBarred_37 : decode mM_pairsBarred.2.1 37 = .ok (.imul, 1) := by decide +kernel
theorem dM_pairsBarred_38 : decode mM_pairsBarred.2.1 38 = .ok (.iload_n 3, 1) := by decide +kernel
theorem dM_pairsBarred_39 : decode mM_pairsBarred.2.1 39 = .ok (.iadd, 1) := by decide +kernel
theorem dM_pairsBarred_40 : decode mM_pairsBarred.2.1 40 = .ok (.iconst 2, 1) := by decide +kernel
theorem dM_pairsBarred_41 : decode mM_pairsBarred.2.1 41 = .ok (.iload 6, 2) := by decide +kernel
theorem dM_pairsBarred_43 : decode mM_pairsBarred.2.1 43 = .ok (.imul, 1) := by decide +kernel
theorem dM_pairsBarred_44 : decode mM_pairsBarred.2.1 44 = .ok (.iadd, 1) := by decide +kernel
theorem dM_pairsBarred_45 : decode mM_pairsBarred.2.1 45 = .ok (.istore 7, 2) := by decide +kernel
theorem dM_pairsBarred_47 : decode mM_pairsBarred.2.1 47 = .ok (.aload_n 0, 1) := by decide +kernel
theorem dM_pairsBarred_48 : decode mM_pairsBarred.2.1 48 = .ok (.aload_n 0, 1) := by decide +kernel
theorem dM_pairsBarred_49 : decode mM_pairsBarred.2.1 49 = .ok (.getfield 59, 3) := by decide +kernel
theorem dM_pairsBarred_52 : decode mM_pairsBarred.2.1 52 = .ok (.iload 7, 2) := by decide +kernel
theorem dM_pairsBarred_54 : decode mM_pairsBarred.2.1 54 = .ok (.iaload, 1) := by decide +kernel
theorem dM_pairsBarred_55 : decode mM_pairsBarred.2.1 55 = .ok (.invokevirtual 154, 3) := by decide +kernel
theorem dM_pairsBarred_58 : decode mM_pairsBarred.2.1 58 = .ok (.ifCond .ne 19, 3) := by decide +kernel
theorem dM_pairsBarred_61 : decode mM_pairsBarred.2.1 61 = .ok (.aload_n 0, 1) := by decide +kernel
theorem dM_pairsBarred_62 : decode mM_pairsBarred.2.1 62 = .ok (.aload_n 0, 1) := by decide +kernel
theorem dM_pairsBarred_63 : decode mM_pairsBarred.2.1 63 = .ok (.getfield 59, 3) := by decide +kernel
theorem dM_pairsBarred_66 : decode mM_pairsBarred.2.1 66 = .ok (.iload 7, 2) := by decide +kernel
theorem dM_pairsBarred_68 : decode mM_pairsBarred.2.1 68 = .ok (.iconst 1, 1) := by decide +kernel
theorem dM_pairsBarred_69 : decode mM_pairsBarred.2.1 69 = .ok (.iadd, 1) := by decide +kernel
theorem dM_pairsBarred_70 : decode mM_pairsBarred.2.1 70 = .ok (.iaload, 1) := by decide +kernel
theorem dM_pairsBarred_71 : decode mM_pairsBarred.2.1 71 = .ok (.invokevirtual 157, 3) := by decide +kernel
theorem dM_pairsBarred_74 : decode mM_pairsBarred.2.1 74 = .ok (.ifCond .eq 9, 3) := by decide +kernel
theorem dM_pairsBarred_77 : decode mM_pairsBarred.2.1 77 = .ok (.aload_n 0, 1) := by decide +kernel
theorem dM_pairsBarred_78 : decode mM_pairsBarred.2.1 78 = .ok (.iconst (-1), 1) := by decide +kernel
theorem dM_pairsBarred_79 : decode mM_pairsBarred.2.1 79 = .ok (.invokevirtual 127, 3) := by decide +kernel
theorem dM_pairsBarred_82 : decode mM_pairsBarred.2.1 82 = .ok (.ireturn, 1) := by decide +kernel
theorem dM_pairsBarred_83 : decode mM_pairsBarred.2.1 83 = .ok (.iinc 6 1, 3) := by decide +kernel
theorem dM_pairsBarred_86 : decode mM_pairsBarred.2.1 86 = .ok (.goto (-59), 3) := by decide +kernel
theorem dM_pairsBarred_89 : decode mM_pairsBarred.2.1 89 = .ok (.aload_n 0, 1) := by decide +kernel
theorem dM_pairsBarred_90 : decode mM_pairsBarred.2.1 90 = .ok (.iconst 0, 1) := by decide +kernel
theorem dM_pairsBarred_91 : decode mM_pairsBarred.2.1 91 = .ok (.invokevirtual 127, 3) := by decide +kernel
theorem dM_pairsBarred_94 : decode mM_pairsBarred.2.1 94 = .ok (.ireturn, 1) := by decide +kernel
theorem dM_pleased_0 : decode mM_pleased.2.1 0 = .ok (.aload_n 0, 1) := by decide +kernel
theorem dM_pleased_1 : decode mM_pleased.2.1 1 = .ok (.iload_n 1, 1) := by decide +kernel
theorem dM_pleased_2 : decode mM_pleased.2.1 2 = .ok (.invokevirtual 154, 3) := by decide +kernel
theorem dM_pleased_5 : decode mM_pleased.2.1 5 = .ok (.ifCond .ne 11, 3) := by decide +kernel
theorem dM_pleased_8 : decode mM_pleased.2.1 8 = .ok (.aload_n 0, 1) := by decide +kernel
theorem dM_pleased_9 : decode mM_pleased.2.1 9 = .ok (.iload_n 2, 1) := by decide +kernel
theorem dM_pleased_10 : decode mM_pleased.2.1 10 = .ok (.invokevirtual 157, 3) := by decide +kernel
theorem dM_pleased_13 : decode mM_pleased.2.1 13 = .ok (.ifCond .eq 7, 3) := by decide +kernel
theorem dM_pleased_16 : decode mM_pleased.2.1 16 = .ok (.iconst (-1), 1) := by decide +kernel
theorem dM_pleased_17 : decode mM_pleased.2.1 17 = .ok (.goto 9, 3) := by decide +kernel
theorem dM_pleased_20 : decode mM_pleased.2.1 20 = .ok (.aload_n 0, 1) := by decide +kernel
theorem dM_pleased_21 : decode mM_pleased.2.1 21 = .ok (.iload_n 1, 1) := by decide +kernel
theorem dM_pleased_22 : decode mM_pleased.2.1 22 = .ok (.iload_n 2, 1) := by decide +kernel
theorem dM_pleased_23 : decode mM_pleased.2.1 23 = .ok (.invokevirtual 148, 3) := by decide +kernel
theorem dM_pleased_26 : decode mM_pleased.2.1 26 = .ok (.ireturn, 1) := by decide +kernel
theorem dM_pleasedBy_0 : decode mM_pleasedBy.2.1 0 = .ok (.aload_n 0, 1) := by decide +kernel
theorem dM_pleasedBy_1 : decode mM_pleasedBy.2.1 1 = .ok (.getfield 22, 3) := by decide +kernel
theorem dM_pleasedBy_4 : decode mM_pleasedBy.2.1 4 = .ok (.iload_n 1, 1) := by decide +kernel
theorem dM_pleasedBy_5 : decode mM_pleasedBy.2.1 5 = .ok (.iaload, 1) := by decide +kernel
theorem dM_pleasedBy_6 : decode mM_pleasedBy.2.1 6 = .ok (.iload_n 2, 1) := by decide +kernel
theorem dM_pleasedBy_7 : decode mM_pleasedBy.2.1 7 = .ok (.if_icmp .ne 7, 3) := by decide +kernel
theorem dM_pleasedBy_10 : decode mM_pleasedBy.2.1 10 = .ok (.iconst 1, 1) := by decide +kernel
theorem dM_pleasedBy_11 : decode mM_pleasedBy.2.1 11 = .ok (.goto 4, 3) := by decide +kernel
theorem dM_pleasedBy_14 : decode mM_pleasedBy.2.1 14 = .ok (.iconst 0, 1) := by decide +kernel
theorem dM_pleasedBy_15 : decode mM_pleasedBy.2.1 15 = .ok (.istore_n 3, 1) := by decide +kernel
theorem dM_pleasedBy_16 : decode mM_pleasedBy.2.1 16 = .ok (.aload_n 0, 1) := by decide +kernel
theorem dM_pleasedBy_17 : decode mM_pleasedBy.2.1 17 = .ok (.getfield 7, 3) := by decide +kernel
theorem dM_pleasedBy_20 : decode mM_pleasedBy.2.1 20 = .ok (.iload_n 2, 1) := by decide +kernel
theorem dM_pleasedBy_21 : decode mM_pleasedBy.2.1 21 = .ok (.iaload, 1) := by decide +kernel
theorem dM_pleasedBy_22 : decode mM_pleasedBy.2.1 22 = .ok (.aload_n 0, 1) := by decide +kernel
theorem dM_pleasedBy_23 : decode mM_pleasedBy.2.1 23 = .ok (.getfield 19, 3) := by decide +kernel
theorem dM_pleasedBy_26 : decode mM_pleasedBy.2.1 26 = .ok (.iload_n 1, 1) := by decide +kernel
theorem dM_pleasedBy_27 : decode mM_pleasedBy.2.1 27 = .ok (.iaload, 1) := by decide +kernel
theorem dM_pleasedBy_28 : decode mM_pleasedBy.2.1 28 = .ok (.iadd, 1) := by decide +kernel
theorem dM_pleasedBy_29 : decode mM_pleasedBy.2.1 29 = .ok (.iload_n 3, 1) := by decide +kernel
theorem dM_pleasedBy_30 : decode mM_pleasedBy.2.1 30 = .ok (.ifCond .eq 7, 3) := by decide +kernel
theorem dM_pleasedBy_33 : decode mM_pleasedBy.2.1 33 = .ok (.iconst 3, 1) := by decide +kernel
theorem dM_pleasedBy_34 : decode mM_pleasedBy.2.1 34 = .ok (.goto 4, 3) := by decide +kernel
theorem dM_pleasedBy_37 : decode mM_pleasedBy.2.1 37 = .ok (.iconst 0, 1) := by decide +kernel
theorem dM_pleasedBy_38 : decode mM_pleasedBy.2.1 38 = .ok (.iadd, 1) := by decide +kernel
theorem dM_pleasedBy_39 : decode mM_pleasedBy.2.1 39 = .ok (.istore 4, 2) := by decide +kernel
theorem dM_pleasedBy_41 : decode mM_pleasedBy.2.1 41 = .ok (.aload_n 0, 1) := by decide +kernel
theorem dM_pleasedBy_42 : decode mM_pleasedBy.2.1 42 = .ok (.getfield 16, 3) := by decide +kernel
theorem dM_pleasedBy_45 : decode mM_pleasedBy.2.1 45 = .ok (.iload_n 1, 1) := by decide +kernel
theorem dM_pleasedBy_46 : decode mM_pleasedBy.2.1 46 = .ok (.iaload, 1) := by decide +kernel
theorem dM_pleasedBy_47 : decode mM_pleasedBy.2.1 47 = .ok (.iconst 2, 1) := by decide +kernel
theorem dM_pleasedBy_48 : decode mM_pleasedBy.2.1 48 = .ok (.if_icmp .ne 18, 3) := by decide +kernel
theorem dM_pleasedBy_51 : decode mM_pleasedBy.2.1 51 = .ok (.iload_n 3, 1) := by decide +kernel
theorem dM_pleasedBy_52 : decode mM_pleasedBy.2.1 52 = .ok (.ifCond .eq 12, 3) := by decide +kernel
theorem dM_pleasedBy_55 : decode mM_pleasedBy.2.1 55 = .ok (.iload 4, 2) := by decide +kernel
theorem dM_pleasedBy_57 : decode mM_pleasedBy.2.1 57 = .ok (.iconst 2, 1) := by decide +kernel
theorem dM_pleasedBy_58 : decode mM_pleasedBy.2.1 58 = .ok (.idiv, 1) := by decide +kernel
theorem dM_pleasedBy_59 : decode mM_pleasedBy.2.1 59 = .ok (.iconst 2, 1) := by decide +kernel
theorem dM_pleasedBy_60 : decode mM_pleasedBy.2.1 60 = .ok (.iadd, 1) := by decide +kernel
theorem dM_pleasedBy_61 : decode mM_pleasedBy.2.1 61 = .ok (.goto 4, 3) := by decide +kernel
theorem dM_pleasedBy_64 : decode mM_pleasedBy.2.1 64 = .ok (.iconst 0, 1) := by decide +kernel
theorem dM_pleasedBy_65 : decode mM_pleasedBy.2.1 65 = .ok (.ireturn, 1) := by decide +kernel
theorem dM_pleasedBy_66 : decode mM_pleasedBy.2.1 66 = .ok (.aload_n 0, 1) := by decide +kernel
theorem dM_pleasedBy_67 : decode mM_pleasedBy.2.1 67 = .ok (.getfield 16, 3) := by decide +kernel
theorem dM_pleasedBy_70 : decode mM_pleasedBy.2.1 70 = .ok (.iload_n 1, 1) := by decide +kernel
theorem dM_pleasedBy_71 : decode mM_pleasedBy.2.1 71 = .ok (.iaload, 1) := by decide +kernel
theorem dM_pleasedBy_72 : decode mM_pleasedBy.2.1 72 = .ok (.iconst 1, 1) := by decide +kernel
theorem dM_pleasedBy_73 : decode mM_pleasedBy.2.1 73 = .ok (.if_icmp .ne 10, 3) := by decide +kernel
theorem dM_pleasedBy_76 : decode mM_pleasedBy.2.1 76 = .ok (.iload 4, 2) := by decide +kernel
theorem dM_pleasedBy_78 : decode mM_pleasedBy.2.1 78 = .ok (.iconst 2, 1) := by decide +kernel
theorem dM_pleasedBy_79 : decode mM_pleasedBy.2.1 79 = .ok (.idiv, 1) := by decide +kernel
theorem dM_pleasedBy_80 : decode mM_pleasedBy.2.1 80 = .ok (.goto 5, 3) := by decide +kernel
theorem dM_pleasedBy_83 : decode mM_pleasedBy.2.1 83 = .ok (.iload 4, 2) := by decide +kernel
theorem dM_pleasedBy_85 : decode mM_pleasedBy.2.1 85 = .ok (.ireturn, 1) := by decide +kernel
theorem dM_put_0 : decode mM_put.2.1 0 = .ok (.iload_n 1, 1) := by decide +kernel
theorem dM_put_1 : decode mM_put.2.1 1 = .ok (.invokestatic 123, 3) := by decide +kernel
theorem dM_put_4 : decode mM_put.2.1 4 = .ok (.ifCond .eq 9, 3) := by decide +kernel
theorem dM_put_7 : decode mM_put.2.1 7 = .ok (.aload_n 0, 1) := by decide +kernel
theorem dM_put_8 : decode mM_put.2.1 8 = .ok (.iconst (-1), 1) := by decide +kernel
theorem dM_put_9 : decode mM_put.2.1 9 = .ok (.invokevirtual 127, 3) := by decide +kernel
theorem dM_put_12 : decode mM_put.2.1 12 = .ok (.ireturn, 1) := by decide +kernel
theorem dM_put_13 : decode mM_put.2.1 13 = .ok (.aload_n 0, 1) := by decide +kernel
theorem dM_put_14 : decode mM_put.2.1 14 = .ok (.iload_n 1, 1) := by decide +kernel
theorem dM_put_15 : decode mM_put.2.1 15 = .ok (.iload_n 2, 1) := by decide +kernel
theorem dM_put_16 : decode mM_put.2.1 16 = .ok (.invokevirtual 229, 3) := by decide +kernel
theorem dM_put_19 : decode mM_put.2.1 19 = .ok (.ifCond .le 14, 3) := by decide +kernel
theorem dM_put_22 : decode mM_put.2.1 22 = .ok (.aload_n 0, 1) := by decide +kernel
theorem dM_put_23 : decode mM_put.2.1 23 = .ok (.aload_n 0, 1) := by decide +kernel
theorem dM_put_24 : decode mM_put.2.1 24 = .ok (.iload_n 1, 1) := by decide +kernel
theorem dM_put_25 : decode mM_put.2.1 25 = .ok (.iload_n 2, 1) := by decide +kernel
theorem dM_put_26 : decode mM_put.2.1 26 = .ok (.invokevirtual 229, 3) := by decide +kernel
theorem dM_put_29 : decode mM_put.2.1 29 = .ok (.invokevirtual 115, 3) := by decide +kernel
theorem dM_put_32 : decode mM_put.2.1 32 = .ok (.ireturn, 1) := by decide +kernel
theorem dM_put_33 : decode mM_put.2.1 33 = .ok (.aload_n 0, 1) := by decide +kernel
theorem dM_put_34 : decode mM_put.2.1 34 = .ok (.getfield 59, 3) := by decide +kernel
theorem dM_put_37 : decode mM_put.2.1 37 = .ok (.bipush 60, 2) := by decide +kernel
theorem dM_put_39 : decode mM_put.2.1 39 = .ok (.iload_n 1, 1) := by decide +kernel
theorem dM_put_40 : decode mM_put.2.1 40 = .ok (.imul, 1) := by decide +kernel
theorem dM_put_41 : decode mM_put.2.1 41 = .ok (.iload_n 2, 1) := by decide +kernel
theorem dM_put_42 : decode mM_put.2.1 42 = .ok (.iadd, 1) := by decide +kernel
theorem dM_put_43 : decode mM_put.2.1 43 = .ok (.aload_n 0, 1) := by decide +kernel
theorem dM_put_44 : decode mM_put.2.1 44 = .ok (.getfield 56, 3) := by decide +kernel
theorem dM_put_47 : decode mM_put.2.1 47 = .ok (.iload_n 1, 1) := by decide +kernel
theorem dM_put_48 : decode mM_put.2.1 48 = .ok (.iaload, 1) := by decide +kernel
theorem dM_put_49 : decode mM_put.2.1 49 = .ok (.ifCond .ne 8, 3) := by decide +kernel
theorem dM_put_52 : decode mM_put.2.1 52 = .ok (.iload_n 3, 1) := by decide +kernel
theorem dM_put_53 : decode mM_put.2.1 53 = .ok (.i2b, 1) := by decide +kernel
theorem dM_put_54 : decode mM_put.2.1 54 = .ok (.goto 19, 3) := by decide +kernel
theorem dM_put_57 : decode mM_put.2.1 57 = .ok (.aload_n 0, 1) := by decide +kernel
theorem dM_put_58 : decode mM_put.2.1 58 = .ok (.getfield 56, 3) := by decide +kernel
theorem dM_put_61 : decode mM_put.2.1 61 = .ok (.iload_n 1, 1) := by decide +kernel
theorem dM_put_62 : decode mM_put.2.1 62 = .ok (.iaload, 1) := by decide +kernel
theorem dM_put_63 : decode mM_put.2.1 63 = .ok (.iconst 1, 1) := by decide +kernel
theorem dM_put_64 : decode mM_put.2.1 64 = .ok (.if_icmp .ne 8, 3) := by decide +kernel
theorem dM_put_67 : decode mM_put.2.1 67 = .ok (.iload_n 3, 1) := by decide +kernel
theorem dM_put_68 : decode mM_put.2.1 68 = .ok (.i2s, 1) := by decide +kernel
theorem dM_put_69 : decode mM_put.2.1 69 = .ok (.goto 4, 3) := by decide +kernel
theorem dM_put_72 : decode mM_put.2.1 72 = .ok (.iload_n 3, 1) := by decide +kernel
theorem dM_put_73 : decode mM_put.2.1 73 = .ok (.iastore, 1) := by decide +kernel
theorem dM_put_74 : decode mM_put.2.1 74 = .ok (.aload_n 0, 1) := by decide +kernel
theorem dM_put_75 : decode mM_put.2.1 75 = .ok (.iconst 1, 1) := by decide +kernel
theorem dM_put_76 : decode mM_put.2.1 76 = .ok (.invokevirtual 127, 3) := by decide +kernel
theorem dM_put_79 : decode mM_put.2.1 79 = .ok (.ireturn, 1) := by decide +kernel
theorem dM_reading_0 : decode mM_reading.2.1 0 = .ok (.aload_n 0, 1) := by decide +kernel
theorem dM_reading_1 : decode mM_reading.2.1 1 = .ok (.iload_n 1, 1) := by decide +kernel
theorem dM_reading_2 : decode mM_reading.2.1 2 = .ok (.invokevirtual 154, 3) := by decide +kernel
theorem dM_reading_5 : decode mM_reading.2.1 5 = .ok (.ifCond .ne 11, 3) := by decide +kernel
theorem dM_reading_8 : decode mM_reading.2.1 8 = .ok (.aload_n 0, 1) := by decide +kernel
theorem dM_reading_9 : decode mM_reading.2.1 9 = .ok (.iload_n 2, 1) := by decide +kernel
theorem dM_reading_10 : decode mM_reading.2.1 10 = .ok (.invokevirtual 157, 3) := by decide +kernel
theorem dM_reading_13 : decode mM_reading.2.1 13 = .ok (.ifCond .eq 5, 3) := by decide +kernel
theorem dM_reading_16 : decode mM_reading.2.1 16 = .ok (.iconst (-1), 1) := by decide +kernel
theorem dM_reading_17 : decode mM_reading.2.1 17 = .ok (.ireturn, 1) := by decide +kernel
theorem dM_reading_18 : decode mM_reading.2.1 18 = .ok (.aload_n 0, 1) := by decide +kernel
theorem dM_reading_19 : decode mM_reading.2.1 19 = .ok (.getfield 145, 3) := by decide +kernel
theorem dM_reading_22 : decode mM_reading.2.1 22 = .ok (.bipush 8, 2) := by decide +kernel
theorem dM_reading_24 : decode mM_reading.2.1 24 = .ok (.if_icmp .ne 6, 3) := by decide +kernel
theorem dM_reading_27 : decode mM_reading.2.1 27 = .ok (.bipush (-4), 2) := by decide +kernel
theorem dM_reading_29 : decode mM_reading.2.1 29 = .ok (.ireturn, 1) := by decide +kernel
theorem dM_reading_30 : decode mM_reading.2.1 30 = .ok (.aload_n 0, 1) := by decide +kernel
theorem dM_reading_31 : decode mM_reading.2.1 31 = .ok (.getfield 43, 3) := by decide +kernel
theorem dM_reading_34 : decode mM_reading.2.1 34 = .ok (.aload_n 0, 1) := by decide +kernel
theorem dM_reading_35 : decode mM_reading.2.1 35 = .ok (.getfield 145, 3) := by decide +kernel
theorem dM_reading_38 : decode mM_reading.2.1 38 = .ok (.iload_n 1, 1) := by decide +kernel
theorem dM_reading_39 : decode mM_reading.2.1 39 = .ok (.iastore, 1) := by decide +kernel
theorem dM_reading_40 : decode mM_reading.2.1 40 = .ok (.aload_n 0, 1) := by decide +kernel
theorem dM_reading_41 : decode mM_reading.2.1 41 = .ok (.getfield 46, 3) := by decide +kernel
theorem dM_reading_44 : decode mM_reading.2.1 44 = .ok (.aload_n 0, 1) := by decide +kernel
theorem dM_reading_45 : decode mM_reading.2.1 45 = .ok (.getfield 145, 3) := by decide +kernel
theorem dM_reading_48 : decode mM_reading.2.1 48 = .ok (.iload_n 2, 1) := by decide +kernel
theorem dM_reading_49 : decode mM_reading.2.1 49 = .ok (.iastore, 1) := by decide +kernel
theorem dM_reading_50 : decode mM_reading.2.1 50 = .ok (.aload_n 0, 1) := by decide +kernel
theorem dM_reading_51 : decode mM_reading.2.1 51 = .ok (.getfield 49, 3) := by decide +kernel
theorem dM_reading_54 : decode mM_reading.2.1 54 = .ok (.aload_n 0, 1) := by decide +kernel
theorem dM_reading_55 : decode mM_reading.2.1 55 = .ok (.getfield 145, 3) := by decide +kernel
theorem dM_reading_58 : decode mM_reading.2.1 58 = .ok (.iload_n 3, 1) := by decide +kernel
theorem dM_reading_59 : decode mM_reading.2.1 59 = .ok (.bastore, 1) := by decide +kernel
theorem dM_reading_60 : decode mM_reading.2.1 60 = .ok (.aload_n 0, 1) := by decide +kernel
theorem dM_reading_61 : decode mM_reading.2.1 61 = .ok (.dup, 1) := by decide +kernel
theorem dM_reading_62 : decode mM_reading.2.1 62 = .ok (.getfield 145, 3) := by decide +kernel
theorem dM_reading_65 : decode mM_reading.2.1 65 = .ok (.iconst 1, 1) := by decide +kernel
theorem dM_reading_66 : decode mM_reading.2.1 66 = .ok (.iadd, 1) := by decide +kernel
theorem dM_reading_67 : decode mM_reading.2.1 67 = .ok (.putfield 145, 3) := by decide +kernel
theorem dM_reading_70 : decode mM_reading.2.1 70 = .ok (.aload_n 0, 1) := by decide +kernel
theorem dM_reading_71 : decode mM_reading.2.1 71 = .ok (.getfield 145, 3) := by decide +kernel
theorem dM_reading_74 : decode mM_reading.2.1 74 = .ok (.iconst 1, 1) := by decide +kernel
theorem dM_reading_75 : decode mM_reading.2.1 75 = .ok (.isub, 1) := by decide +kernel
theorem dM_reading_76 : decode mM_reading.2.1 76 = .ok (.ireturn, 1) := by decide +kernel
theorem dM_readsDoing_0 : decode mM_readsDoing.2.1 0 = .ok (.aload_n 0, 1) := by decide +kernel
theorem dM_readsDoing_1 : decode mM_readsDoing.2.1 1 = .ok (.getfield 92, 3) := by decide +kernel
theorem dM_readsDoing_4 : decode mM_readsDoing.2.1 4 = .ok (.iconst 4, 1) := by decide +kernel
theorem dM_readsDoing_5 : decode mM_readsDoing.2.1 5 = .ok (.if_icmp .eq 14, 3) := by decide +kernel
theorem dM_readsDoing_8 : decode mM_readsDoing.2.1 8 = .ok (.aload_n 0, 1) := by decide +kernel
theorem dM_readsDoing_9 : decode mM_readsDoing.2.1 9 = .ok (.iload_n 1, 1) := by decide +kernel
theorem dM_readsDoing_10 : decode mM_readsDoing.2.1 10 = .ok (.iload_n 2, 1) := by decide +kernel
theorem dM_readsDoing_11 : decode mM_readsDoing.2.1 11 = .ok (.invokevirtual 88, 3) := by decide +kernel
theorem dM_readsDoing_14 : decode mM_readsDoing.2.1 14 = .ok (.bipush 47, 2) := by decide +kernel
theorem dM_readsDoing_16 : decode mM_readsDoing.2.1 16 = .ok (.if_icmp .eq 5, 3) := by decide +kernel
theorem dM_readsDoing_19 : decode mM_readsDoing.2.1 19 = .ok (.iconst 0, 1) := by decide +kernel
theorem dM_readsDoing_20 : decode mM_readsDoing.2.1 20 = .ok (.ireturn, 1) := by decide +kernel
theorem dM_readsDoing_21 : decode mM_readsDoing.2.1 21 = .ok (.aload_n 0, 1) := by decide +kernel
theorem dM_readsDoing_22 : decode mM_readsDoing.2.1 22 = .ok (.dup, 1) := by decide +kernel
theorem dM_readsDoing_23 : decode mM_readsDoing.2.1 23 = .ok (.getfield 85, 3) := by decide +kernel
theorem dM_readsDoing_26 : decode mM_readsDoing.2.1 26 = .ok (.iconst 1, 1) := by decide +kernel
theorem dM_readsDoing_27 : decode mM_readsDoing.2.1 27 = .ok (.iadd, 1) := by decide +kernel
theorem dM_readsDoing_28 : decode mM_readsDoing.2.1 28 = .ok (.putfield 85, 3) := by decide +kernel
theorem dM_readsDoing_31 : decode mM_readsDoing.2.1 31 = .ok (.aload_n 0, 1) := by decide +kernel
theorem dM_readsDoing_32 : decode mM_readsDoing.2.1 32 = .ok (.iload_n 1, 1) := by decide +kernel
theorem dM_readsDoing_33 : decode mM_readsDoing.2.1 33 = .ok (.iload_n 2, 1) := by decide +kernel
theorem dM_readsDoing_34 : decode mM_readsDoing.2.1 34 = .ok (.iconst 0, 1) := by decide +kernel
theorem dM_readsDoing_35 : decode mM_readsDoing.2.1 35 = .ok (.bipush 9, 2) := by decide +kernel
theorem dM_readsDoing_37 : decode mM_readsDoing.2.1 37 = .ok (.invokevirtual 95, 3) := by decide +kernel
theorem dM_readsDoing_40 : decode mM_readsDoing.2.1 40 = .ok (.istore_n 3, 1) := by decide +kernel
theorem dM_readsDoing_41 : decode mM_readsDoing.2.1 41 = .ok (.iload_n 3, 1) := by decide +kernel
theorem dM_readsDoing_42 : decode mM_readsDoing.2.1 42 = .ok (.ifCond .ge 8, 3) := by decide +kernel
theorem dM_readsDoing_45 : decode mM_readsDoing.2.1 45 = .ok (.bipush (-9), 2) := by decide +kernel
theorem dM_readsDoing_47 : decode mM_readsDoing.2.1 47 = .ok (.goto 11, 3) := by decide +kernel
theorem dM_readsDoing_50 : decode mM_readsDoing.2.1 50 = .ok (.aload_n 0, 1) := by decide +kernel
theorem dM_readsDoing_51 : decode mM_readsDoing.2.1 51 = .ok (.iload_n 1, 1) := by decide +kernel
theorem dM_readsDoing_52 : decode mM_readsDoing.2.1 52 = .ok (.iload_n 2, 1) := by decide +kernel
theorem dM_readsDoing_53 : decode mM_readsDoing.2.1 53 = .ok (.iconst 0, 1) := by decide +kernel
theorem dM_readsDoing_54 : decode mM_readsDoing.2.1 54 = .ok (.iconst 3, 1) := by decide +kernel
theorem dM_readsDoing_55 : decode mM_readsDoing.2.1 55 = .ok (.invokevirtual 95, 3) := by decide +kernel
theorem dM_readsDoing_58 : decode mM_readsDoing.2.1 58 = .ok (.istore 4, 2) := by decide +kernel
theorem dM_readsDoing_60 : decode mM_readsDoing.2.1 60 = .ok (.iload 4, 2) := by decide +kernel
theorem dM_readsDoing_62 : decode mM_readsDoing.2.1 62 = .ok (.ifCond .ge 5, 3) := by decide +kernel
theorem dM_readsDoing_65 : decode mM_readsDoing.2.1 65 = .ok (.iconst 0, 1) := by decide +kernel
theorem dM_readsDoing_66 : decode mM_readsDoing.2.1 66 = .ok (.ireturn, 1) := by decide +kernel
theorem dM_readsDoing_67 : decode mM_readsDoing.2.1 67 = .ok (.aload_n 0, 1) := by decide +kernel
theorem dM_readsDoing_68 : decode mM_readsDoing.2.1 68 = .ok (.getfield 25, 3) := by decide +kernel
theorem dM_readsDoing_71 : decode mM_readsDoing.2.1 71 = .ok (.aload_n 0, 1) := by decide +kernel
theorem dM_readsDoing_72 : decode mM_readsDoing.2.1 72 = .ok (.getfield 92, 3) := by decide +kernel
theorem dM_readsDoing_75 : decode mM_readsDoing.2.1 75 = .ok (.iload_n 3, 1) := by decide +kernel
theorem dM_readsDoing_76 : decode mM_readsDoing.2.1 76 = .ok (.iastore, 1) := by decide +kernel
theorem dM_readsDoing_77 : decode mM_readsDoing.2.1 77 = .ok (.aload_n 0, 1) := by decide +kernel
theorem dM_readsDoing_78 : decode mM_readsDoing.2.1 78 = .ok (.getfield 28, 3) := by decide +kernel
theorem dM_readsDoing_81 : decode mM_readsDoing.2.1 81 = .ok (.aload_n 0, 1) := by decide +kernel
theorem dM_readsDoing_82 : decode mM_readsDoing.2.1 82 = .ok (.getfield 92, 3) := by decide +kernel
theorem dM_readsDoing_85 : decode mM_readsDoing.2.1 85 = .ok (.iload 4, 2) := by decide +kernel
theorem dM_readsDoing_87 : decode mM_readsDoing.2.1 87 = .ok (.iastore, 1) := by decide +kernel
theorem dM_readsDoing_88 : decode mM_readsDoing.2.1 88 = .ok (.aload_n 0, 1) := by decide +kernel
theorem dM_readsDoing_89 : decode mM_readsDoing.2.1 89 = .ok (.dup, 1) := by decide +kernel
theorem dM_readsDoing_90 : decode mM_readsDoing.2.1 90 = .ok (.getfield 92, 3) := by decide +kernel
theorem dM_readsDoing_93 : decode mM_readsDoing.2.1 93 = .ok (.iconst 1, 1) := by decide +kernel
theorem dM_readsDoing_94 : decode mM_readsDoing.2.1 94 = .ok (.iadd, 1) := by decide +kernel
theorem dM_readsDoing_95 : decode mM_readsDoing.2.1 95 = .ok (.putfield 92, 3) := by decide +kernel
theorem dM_readsDoing_98 : decode mM_readsDoing.2.1 98 = .ok (.iconst 1, 1) := by decide +kernel
theorem dM_readsDoing_99 : decode mM_readsDoing.2.1 99 = .ok (.ireturn, 1) := by decide +kernel
theorem dM_readsGuest_0 : decode mM_readsGuest.2.1 0 = .ok (.aload_n 0, 1) := by decide +kernel
theorem dM_readsGuest_1 : decode mM_readsGuest.2.1 1 = .ok (.getfield 99, 3) := by decide +kernel
theorem dM_readsGuest_4 : decode mM_readsGuest.2.1 4 = .ok (.bipush 6, 2) := by decide +kernel
theorem dM_readsGuest_6 : decode mM_readsGuest.2.1 6 = .ok (.if_icmp .eq 14, 3) := by decide +kernel
theorem dM_readsGuest_9 : decode mM_readsGuest.2.1 9 = .ok (.aload_n 0, 1) := by decide +kernel
theorem dM_readsGuest_10 : decode mM_readsGuest.2.1 10 = .ok (.iload_n 1, 1) := by decide +kernel
theorem dM_readsGuest_11 : decode mM_readsGuest.2.1 11 = .ok (.iload_n 2, 1) := by decide +kernel
theorem dM_readsGuest_12 : decode mM_readsGuest.2.1 12 = .ok (.invokevirtual 88, 3) := by decide +kernel
theorem dM_readsGuest_15 : decode mM_readsGuest.2.1 15 = .ok (.bipush 59, 2) := by decide +kernel
theorem dM_readsGuest_17 : decode mM_readsGuest.2.1 17 = .ok (.if_icmp .eq 5, 3) := by decide +kernel
theorem dM_readsGuest_20 : decode mM_readsGuest.2.1 20 = .ok (.iconst 0, 1) := by decide +kernel
theorem dM_readsGuest_21 : decode mM_readsGuest.2.1 21 = .ok (.ireturn, 1) := by decide +kernel
theorem dM_readsGuest_22 : decode mM_readsGuest.2.1 22 = .ok (.aload_n 0, 1) := by decide +kernel
theorem dM_readsGuest_23 : decode mM_readsGuest.2.1 23 = .ok (.dup, 1) := by decide +kernel
theorem dM_readsGuest_24 : decode mM_readsGuest.2.1 24 = .ok (.getfield 85, 3) := by decide +kernel
theorem dM_readsGuest_27 : decode mM_readsGuest.2.1 27 = .ok (.iconst 1, 1) := by decide +kernel
theorem dM_readsGuest_28 : decode mM_readsGuest.2.1 28 = .ok (.iadd, 1) := by decide +kernel
theorem dM_readsGuest_29 : decode mM_readsGuest.2.1 29 = .ok (.putfield 85, 3) := by decide +kernel
theorem dM_readsGuest_32 : decode mM_readsGuest.2.1 32 = .ok (.aload_n 0, 1) := by decide +kernel
theorem dM_readsGuest_33 : decode mM_readsGuest.2.1 33 = .ok (.iload_n 1, 1) := by decide +kernel
theorem dM_readsGuest_34 : decode mM_readsGuest.2.1 34 = .ok (.iload_n 2, 1) := by decide +kernel
theorem dM_readsGuest_35 : decode mM_readsGuest.2.1 35 = .ok (.invokevirtual 88, 3) := by decide +kernel
theorem dM_readsGuest_38 : decode mM_readsGuest.2.1 38 = .ok (.istore_n 3, 1) := by decide +kernel
theorem dM_readsGuest_39 : decode mM_readsGuest.2.1 39 = .ok (.iload_n 3, 1) := by decide +kernel
theorem dM_readsGuest_40 : decode mM_readsGuest.2.1 40 = .ok (.bipush 103, 2) := by decide +kernel
theorem dM_readsGuest_42 : decode mM_readsGuest.2.1 42 = .ok (.if_icmp .eq 17, 3) := by decide +kernel
theorem dM_readsGuest_45 : decode mM_readsGuest.2.1 45 = .ok (.iload_n 3, 1) := by decide +kernel
theorem dM_readsGuest_46 : decode mM_readsGuest.2.1 46 = .ok (.bipush 99, 2) := by decide +kernel
theorem dM_readsGuest_48 : decode mM_readsGuest.2.1 48 = .ok (.if_icmp .eq 11, 3) := by decide +kernel
theorem dM_readsGuest_51 : decode mM_readsGuest.2.1 51 = .ok (.iload_n 3, 1) := by decide +kernel
theorem dM_readsGuest_52 : decode mM_readsGuest.2.1 52 = .ok (.bipush 112, 2) := by decide +kernel
theorem dM_readsGuest_54 : decode mM_readsGuest.2.1 54 = .ok (.if_icmp .eq 5, 3) := by decide +kernel
theorem dM_readsGuest_57 : decode mM_readsGuest.2.1 57 = .ok (.iconst 0, 1) := by decide +kernel
theorem dM_readsGuest_58 : decode mM_readsGuest.2.1 58 = .ok (.ireturn, 1) := by decide +kernel
theorem dM_readsGuest_59 : decode mM_readsGuest.2.1 59 = .ok (.aload_n 0, 1) := by decide +kernel
theorem dM_readsGuest_60 : decode mM_readsGuest.2.1 60 = .ok (.dup, 1) := by decide +kernel
theorem dM_readsGuest_61 : decode mM_readsGuest.2.1 61 = .ok (.getfield 85, 3) := by decide +kernel
theorem dM_readsGuest_64 : decode mM_readsGuest.2.1 64 = .ok (.iconst 1, 1) := by decide +kernel
theorem dM_readsGuest_65 : decode mM_readsGuest.2.1 65 = .ok (.iadd, 1) := by decide +kernel
theorem dM_readsGuest_66 : decode mM_readsGuest.2.1 66 = .ok (.putfield 85, 3) := by decide +kernel
theorem dM_readsGuest_69 : decode mM_readsGuest.2.1 69 = .ok (.aload_n 0, 1) := by decide +kernel
theorem dM_readsGuest_70 : decode mM_readsGuest.2.1 70 = .ok (.iload_n 1, 1) := by decide +kernel
theorem dM_readsGuest_71 : decode mM_readsGuest.2.1 71 = .ok (.iload_n 2, 1) := by decide +kernel
theorem dM_readsGuest_72 : decode mM_readsGuest.2.1 72 = .ok (.iconst 0, 1) := by decide +kernel
theorem dM_readsGuest_73 : decode mM_readsGuest.2.1 73 = .ok (.bipush 9, 2) := by decide +kernel
theorem dM_readsGuest_75 : decode mM_readsGuest.2.1 75 = .ok (.invokevirtual 95, 3) := by decide +kernel
theorem dM_readsGuest_78 : decode mM_readsGuest.2.1 78 = .ok (.istore 4, 2) := by decide +kernel
theorem dM_readsGuest_80 : decode mM_readsGuest.2.1 80 = .ok (.iload 4, 2) := by decide +kernel
theorem dM_readsGuest_82 : decode mM_readsGuest.2.1 82 = .ok (.ifCond .ge 8, 3) := by decide +kernel
theorem dM_readsGuest_85 : decode mM_readsGuest.2.1 85 = .ok (.bipush (-9), 2) := by decide +kernel
theorem dM_readsGuest_87 : decode mM_readsGuest.2.1 87 = .ok (.goto 16, 3) := by decide +kernel
theorem dM_readsGuest_90 : decode mM_readsGuest.2.1 90 = .ok (.aload_n 0, 1) := by decide +kernel
theorem dM_readsGuest_91 : decode mM_readsGuest.2.1 91 = .ok (.iload_n 1, 1) := by decide +kernel
theorem dM_readsGuest_92 : decode mM_readsGuest.2.1 92 = .ok (.iload_n 2, 1) := by decide +kernel
theorem dM_readsGuest_93 : decode mM_readsGuest.2.1 93 = .ok (.iconst 0, 1) := by decide +kernel
theorem dM_readsGuest_94 : decode mM_readsGuest.2.1 94 = .ok (.aload_n 0, 1) := by decide +kernel
theorem dM_readsGuest_95 : decode mM_readsGuest.2.1 95 = .ok (.getfield 92, 3) := by decide +kernel
theorem dM_readsGuest_98 : decode mM_readsGuest.2.1 98 = .ok (.iconst 1, 1) := by decide +kernel
theorem dM_readsGuest_99 : decode mM_readsGuest.2.1 99 = .ok (.isub, 1) := by decide +kernel
theorem dM_readsGuest_100 : decode mM_readsGuest.2.1 100 = .ok (.invokevirtual 95, 3) := by decide +kernel
theorem dM_readsGuest_103 : decode mM_readsGuest.2.1 103 = .ok (.istore 5, 2) := by decide +kernel
theorem dM_readsGuest_105 : decode mM_readsGuest.2.1 105 = .ok (.iload 5, 2) := by decide +kernel
theorem dM_readsGuest_107 : decode mM_readsGuest.2.1 107 = .ok (.ifCond .ge 5, 3) := by decide +kernel
theorem dM_readsGuest_110 : decode mM_readsGuest.2.1 110 = .ok (.iconst 0, 1) := by decide +kernel
theorem dM_readsGuest_111 : decode mM_readsGuest.2.1 111 = .ok (.ireturn, 1) := by decide +kernel
theorem dM_readsGuest_112 : decode mM_readsGuest.2.1 112 = .ok (.aload_n 0, 1) := by decide +kernel
theorem dM_readsGuest_113 : decode mM_readsGuest.2.1 113 = .ok (.getfield 31, 3) := by decide +kernel
theorem dM_readsGuest_116 : decode mM_readsGuest.2.1 116 = .ok (.aload_n 0, 1) := by decide +kernel
theorem dM_readsGuest_117 : decode mM_readsGuest.2.1 117 = .ok (.getfield 99, 3) := by decide +kernel
theorem dM_readsGuest_120 : decode mM_readsGuest.2.1 120 = .ok (.iload_n 3, 1) := by decide +kernel
theorem dM_readsGuest_121 : decode mM_readsGuest.2.1 121 = .ok (.bipush 103, 2) := by decide +kernel
theorem dM_readsGuest_123 : decode mM_readsGuest.2.1 123 = .ok (.if_icmp .ne 7, 3) := by decide +kernel
theorem dM_readsGuest_126 : decode mM_readsGuest.2.1 126 = .ok (.iconst 0, 1) := by decide +kernel
theorem dM_readsGuest_127 : decode mM_readsGuest.2.1 127 = .ok (.goto 14, 3) := by decide +kernel
theorem dM_readsGuest_130 : decode mM_readsGuest.2.1 130 = .ok (.iload_n 3, 1) := by decide +kernel
theorem dM_readsGuest_131 : decode mM_readsGuest.2.1 131 = .ok (.bipush 99, 2) := by decide +kernel
theorem dM_readsGuest_133 : decode mM_readsGuest.2.1 133 = .ok (.if_icmp .ne 7, 3) := by decide +kernel
theorem dM_readsGuest_136 : decode mM_readsGuest.2.1 136 = .ok (.iconst 1, 1) := by decide +kernel
theorem dM_readsGuest_137 : decode mM_readsGuest.2.1 137 = .ok (.goto 4, 3) := by decide +kernel
theorem dM_readsGuest_140 : decode mM_readsGuest.2.1 140 = .ok (.iconst 2, 1) := by decide +kernel
theorem dM_readsGuest_141 : decode mM_readsGuest.2.1 141 = .ok (.iastore, 1) := by decide +kernel
theorem dM_readsGuest_142 : decode mM_readsGuest.2.1 142 = .ok (.aload_n 0, 1) := by decide +kernel
theorem dM_readsGuest_143 : decode mM_readsGuest.2.1 143 = .ok (.getfield 34, 3) := by decide +kernel
theorem dM_readsGuest_146 : decode mM_readsGuest.2.1 146 = .ok (.aload_n 0, 1) := by decide +kernel
theorem dM_readsGuest_147 : decode mM_readsGuest.2.1 147 = .ok (.getfield 99, 3) := by decide +kernel
theorem dM_readsGuest_150 : decode mM_readsGuest.2.1 150 = .ok (.iload 4, 2) := by decide +kernel
theorem dM_readsGuest_152 : decode mM_readsGuest.2.1 152 = .ok (.iastore, 1) := by decide +kernel
theorem dM_readsGuest_153 : decode mM_readsGuest.2.1 153 = .ok (.aload_n 0, 1) := by decide +kernel
theorem dM_readsGuest_154 : decode mM_readsGuest.2.1 154 = .ok (.getfield 37, 3) := by decide +kernel
theorem dM_readsGuest_157 : decode mM_readsGuest.2.1 157 = .ok (.aload_n 0, 1) := by decide +kernel
theorem dM_readsGuest_158 : decode mM_readsGuest.2.1 158 = .ok (.getfield 99, 3) := by decide +kernel
theorem dM_readsGuest_161 : decode mM_readsGuest.2.1 161 = .ok (.iload 5, 2) := by decide +kernel
theorem dM_readsGuest_163 : decode mM_readsGuest.2.1 163 = .ok (.iastore, 1) := by decide +kernel
theorem dM_readsGuest_164 : decode mM_readsGuest.2.1 164 = .ok (.aload_n 0, 1) := by decide +kernel
theorem dM_readsGuest_165 : decode mM_readsGuest.2.1 165 = .ok (.dup, 1) := by decide +kernel
theorem dM_readsGuest_166 : decode mM_readsGuest.2.1 166 = .ok (.getfield 99, 3) := by decide +kernel
theorem dM_readsGuest_169 : decode mM_readsGuest.2.1 169 = .ok (.iconst 1, 1) := by decide +kernel
theorem dM_readsGuest_170 : decode mM_readsGuest.2.1 170 = .ok (.iadd, 1) := by decide +kernel
theorem dM_readsGuest_171 : decode mM_readsGuest.2.1 171 = .ok (.putfield 99, 3) := by decide +kernel
theorem dM_readsGuest_174 : decode mM_readsGuest.2.1 174 = .ok (.iconst 1, 1) := by decide +kernel
theorem dM_readsGuest_175 : decode mM_readsGuest.2.1 175 = .ok (.ireturn, 1) := by decide +kernel
theorem dM_readsHotel_0 : decode mM_readsHotel.2.1 0 = .ok (.aload_n 0, 1) := by decide +kernel
theorem dM_readsHotel_1 : decode mM_readsHotel.2.1 1 = .ok (.iconst 0, 1) := by decide +kernel
theorem dM_readsHotel_2 : decode mM_readsHotel.2.1 2 = .ok (.putfield 85, 3) := by decide +kernel
theorem dM_readsHotel_5 : decode mM_readsHotel.2.1 5 = .ok (.aload_n 0, 1) := by decide +kernel
theorem dM_readsHotel_6 : decode mM_readsHotel.2.1 6 = .ok (.iconst 0, 1) := by decide +kernel
theorem dM_readsHotel_7 : decode mM_readsHotel.2.1 7 = .ok (.putfield 92, 3) := by decide +kernel
theorem dM_readsHotel_10 : decode mM_readsHotel.2.1 10 = .ok (.aload_n 0, 1) := by decide +kernel
theorem dM_readsHotel_11 : decode mM_readsHotel.2.1 11 = .ok (.iconst 0, 1) := by decide +kernel
theorem dM_readsHotel_12 : decode mM_readsHotel.2.1 12 = .ok (.putfield 99, 3) := by decide +kernel
theorem dM_readsHotel_15 : decode mM_readsHotel.2.1 15 = .ok (.aload_n 0, 1) := by decide +kernel
theorem dM_readsHotel_16 : decode mM_readsHotel.2.1 16 = .ok (.iload_n 1, 1) := by decide +kernel
theorem dM_readsHotel_17 : decode mM_readsHotel.2.1 17 = .ok (.iload_n 2, 1) := by decide +kernel
theorem dM_readsHotel_18 : decode mM_readsHotel.2.1 18 = .ok (.invokevirtual 88, 3) := by decide +kernel
theorem dM_readsHotel_21 : decode mM_readsHotel.2.1 21 = .ok (.bipush 122, 2) := by decide +kernel
theorem dM_readsHotel_23 : decode mM_readsHotel.2.1 23 = .ok (.if_icmp .ne 7, 3) := by decide +kernel
theorem dM_readsHotel_26 : decode mM_readsHotel.2.1 26 = .ok (.iconst 1, 1) := by decide +kernel
theorem dM_readsHotel_27 : decode mM_readsHotel.2.1 27 = .ok (.goto 4, 3) := by decide +kernel
theorem dM_readsHotel_30 : decode mM_readsHotel.2.1 30 = .ok (.iconst 0, 1) := by decide +kernel
theorem dM_readsHotel_31 : decode mM_readsHotel.2.1 31 = .ok (.istore_n 3, 1) := by decide +kernel
theorem dM_readsHotel_32 : decode mM_readsHotel.2.1 32 = .ok (.aload_n 0, 1) := by decide +kernel
theorem dM_readsHotel_33 : decode mM_readsHotel.2.1 33 = .ok (.dup, 1) := by decide +kernel
theorem dM_readsHotel_34 : decode mM_readsHotel.2.1 34 = .ok (.getfield 85, 3) := by decide +kernel
theorem dM_readsHotel_37 : decode mM_readsHotel.2.1 37 = .ok (.iload_n 3, 1) := by decide +kernel
theorem dM_readsHotel_38 : decode mM_readsHotel.2.1 38 = .ok (.ifCond .eq 7, 3) := by decide +kernel
theorem dM_readsHotel_41 : decode mM_readsHotel.2.1 41 = .ok (.iconst 1, 1) := by decide +kernel
theorem dM_readsHotel_42 : decode mM_readsHotel.2.1 42 = .ok (.goto 4, 3) := by decide +kernel
theorem dM_readsHotel_45 : decode mM_readsHotel.2.1 45 = .ok (.iconst 0, 1) := by decide +kernel
theorem dM_readsHotel_46 : decode mM_readsHotel.2.1 46 = .ok (.iadd, 1) := by decide +kernel
theorem dM_readsHotel_47 : decode mM_readsHotel.2.1 47 = .ok (.putfield 85, 3) := by decide +kernel
theorem dM_readsHotel_50 : decode mM_readsHotel.2.1 50 = .ok (.aload_n 0, 1) := by decide +kernel
theorem dM_readsHotel_51 : decode mM_readsHotel.2.1 51 = .ok (.iload_n 3, 1) := by decide +kernel
theorem dM_readsHotel_52 : decode mM_readsHotel.2.1 52 = .ok (.ifCond .eq 14, 3) := by decide +kernel
theorem dM_readsHotel_55 : decode mM_readsHotel.2.1 55 = .ok (.aload_n 0, 1) := by decide +kernel
theorem dM_readsHotel_56 : decode mM_readsHotel.2.1 56 = .ok (.iload_n 1, 1) := by decide +kernel
theorem dM_readsHotel_57 : decode mM_readsHotel.2.1 57 = .ok (.iload_n 2, 1) := by decide +kernel
theorem dM_readsHotel_58 : decode mM_readsHotel.2.1 58 = .ok (.iconst 0, 1) := by decide +kernel
theorem dM_readsHotel_59 : decode mM_readsHotel.2.1 59 = .ok (.iconst 5, 1) := by decide +kernel
theorem dM_readsHotel_60 : decode mM_readsHotel.2.1 60 = .ok (.invokevirtual 95, 3) := by decide +kernel
theorem dM_readsHotel_63 : decode mM_readsHotel.2.1 63 = .ok (.goto 5, 3) := by decide +kernel
theorem dM_readsHotel_66 : decode mM_readsHotel.2.1 66 = .ok (.bipush (-9), 2) := by decide +kernel
theorem dM_readsHotel_68 : decode mM_readsHotel.2.1 68 = .ok (.putfield 102, 3) := by decide +kernel
theorem dM_readsHotel_71 : decode mM_readsHotel.2.1 71 = .ok (.aload_n 0, 1) := by decide +kernel
theorem dM_readsHotel_72 : decode mM_readsHotel.2.1 72 = .ok (.aload_n 0, 1) := by decide +kernel
theorem dM_readsHotel_73 : decode mM_readsHotel.2.1 73 = .ok (.getfield 102, 3) := by decide +kernel
theorem dM_readsHotel_76 : decode mM_readsHotel.2.1 76 = .ok (.ifCond .lt 15, 3) := by decide +kernel
theorem dM_readsHotel_79 : decode mM_readsHotel.2.1 79 = .ok (.aload_n 0, 1) := by decide +kernel
theorem dM_readsHotel_80 : decode mM_readsHotel.2.1 80 = .ok (.iload_n 1, 1) := by decide +kernel
theorem dM_readsHotel_81 : decode mM_readsHotel.2.1 81 = .ok (.iload_n 2, 1) := by decide +kernel
theorem dM_readsHotel_82 : decode mM_readsHotel.2.1 82 = .ok (.iconst 1, 1) := by decide +kernel
theorem dM_readsHotel_83 : decode mM_readsHotel.2.1 83 = .ok (.bipush 9, 2) := by decide +kernel
theorem dM_readsHotel_85 : decode mM_readsHotel.2.1 85 = .ok (.invokevirtual 95, 3) := by decide +kernel
theorem dM_readsHotel_88 : decode mM_readsHotel.2.1 88 = .ok (.goto 5, 3) := by decide +kernel
theorem dM_readsHotel_91 : decode mM_readsHotel.2.1 91 = .ok (.bipush (-9), 2) := by decide +kernel
theorem dM_readsHotel_93 : decode mM_readsHotel.2.1 93 = .ok (.putfield 105, 3) := by decide +kernel
theorem dM_readsHotel_96 : decode mM_readsHotel.2.1 96 = .ok (.aload_n 0, 1) := by decide +kernel
theorem dM_readsHotel_97 : decode mM_readsHotel.2.1 97 = .ok (.getfield 105, 3) := by decide +kernel
theorem dM_readsHotel_100 : decode mM_readsHotel.2.1 100 = .ok (.ifCond .le 7, 3) := by decide +kernel
theorem dM_readsHotel_103 : decode mM_readsHotel.2.1 103 = .ok (.iconst 1, 1) := by decide +kernel
theorem dM_readsHotel_104 : decode mM_readsHotel.2.1 104 = .ok (.goto 4, 3) := by decide +kernel
theorem dM_readsHotel_107 : decode mM_readsHotel.2.1 107 = .ok (.iconst 0, 1) := by decide +kernel
theorem dM_readsHotel_108 : decode mM_readsHotel.2.1 108 = .ok (.istore_n 3, 1) := by decide +kernel
theorem dM_readsHotel_109 : decode mM_readsHotel.2.1 109 = .ok (.iload_n 3, 1) := by decide +kernel
theorem dM_readsHotel_110 : decode mM_readsHotel.2.1 110 = .ok (.ifCond .eq 31, 3) := by decide +kernel
theorem dM_readsHotel_113 : decode mM_readsHotel.2.1 113 = .ok (.aload_n 0, 1) := by decide +kernel
theorem dM_readsHotel_114 : decode mM_readsHotel.2.1 114 = .ok (.getfield 92, 3) := by decide +kernel
theorem dM_readsHotel_117 : decode mM_readsHotel.2.1 117 = .ok (.ifCond .eq 14, 3) := by decide +kernel
theorem dM_readsHotel_120 : decode mM_readsHotel.2.1 120 = .ok (.aload_n 0, 1) := by decide +kernel
theorem dM_readsHotel_121 : decode mM_readsHotel.2.1 121 = .ok (.iload_n 1, 1) := by decide +kernel
theorem dM_readsHotel_122 : decode mM_readsHotel.2.1 122 = .ok (.iload_n 2, 1) := by decide +kernel
theorem dM_readsHotel_123 : decode mM_readsHotel.2.1 123 = .ok (.invokevirtual 88, 3) := by decide +kernel
theorem dM_readsHotel_126 : decode mM_readsHotel.2.1 126 = .ok (.bipush 47, 2) := by decide +kernel
theorem dM_readsHotel_128 : decode mM_readsHotel.2.1 128 = .ok (.if_icmp .ne 13, 3) := by decide +kernel
theorem dM_readsHotel_131 : decode mM_readsHotel.2.1 131 = .ok (.aload_n 0, 1) := by decide +kernel
theorem dM_readsHotel_132 : decode mM_readsHotel.2.1 132 = .ok (.iload_n 1, 1) := by decide +kernel
theorem dM_readsHotel_133 : decode mM_readsHotel.2.1 133 = .ok (.iload_n 2, 1) := by decide +kernel
theorem dM_readsHotel_134 : decode mM_readsHotel.2.1 134 = .ok (.invokevirtual 108, 3) := by decide +kernel
theorem dM_readsHotel_137 : decode mM_readsHotel.2.1 137 = .ok (.istore_n 3, 1) := by decide +kernel
theorem dM_readsHotel_138 : decode mM_readsHotel.2.1 138 = .ok (.goto (-29), 3) := by decide +kernel
theorem dM_readsHotel_141 : decode mM_readsHotel.2.1 141 = .ok (.iload_n 3, 1) := by decide +kernel
theorem dM_readsHotel_142 : decode mM_readsHotel.2.1 142 = .ok (.ifCond .eq 29, 3) := by decide +kernel
theorem dM_readsHotel_145 : decode mM_readsHotel.2.1 145 = .ok (.aload_n 0, 1) := by decide +kernel
theorem dM_readsHotel_146 : decode mM_readsHotel.2.1 146 = .ok (.getfield 99, 3) := by decide +kernel
theorem dM_readsHotel_149 : decode mM_readsHotel.2.1 149 = .ok (.iconst 2, 1) := by decide +kernel
theorem dM_readsHotel_150 : decode mM_readsHotel.2.1 150 = .ok (.if_icmp .lt 11, 3) := by decide +kernel
theorem dM_readsHotel_153 : decode mM_readsHotel.2.1 153 = .ok (.aload_n 0, 1) := by decide +kernel
theorem dM_readsHotel_154 : decode mM_readsHotel.2.1 154 = .ok (.getfield 85, 3) := by decide +kernel
theorem dM_readsHotel_157 : decode mM_readsHotel.2.1 157 = .ok (.iload_n 2, 1) := by decide +kernel
theorem dM_readsHotel_158 : decode mM_readsHotel.2.1 158 = .ok (.if_icmp .ge 13, 3) := by decide +kernel
theorem dM_readsHotel_161 : decode mM_readsHotel.2.1 161 = .ok (.aload_n 0, 1) := by decide +kernel
theorem dM_readsHotel_162 : decode mM_readsHotel.2.1 162 = .ok (.iload_n 1, 1) := by decide +kernel
theorem dM_readsHotel_163 : decode mM_readsHotel.2.1 163 = .ok (.iload_n 2, 1) := by decide +kernel
theorem dM_readsHotel_164 : decode mM_readsHotel.2.1 164 = .ok (.invokevirtual 112, 3) := by decide +kernel
theorem dM_readsHotel_167 : decode mM_readsHotel.2.1 167 = .ok (.istore_n 3, 1) := by decide +kernel
theorem dM_readsHotel_168 : decode mM_readsHotel.2.1 168 = .ok (.goto (-27), 3) := by decide +kernel
theorem dM_readsHotel_171 : decode mM_readsHotel.2.1 171 = .ok (.iload_n 3, 1) := by decide +kernel
theorem dM_readsHotel_172 : decode mM_readsHotel.2.1 172 = .ok (.ireturn, 1) := by decide +kernel
theorem dM_refused_0 : decode mM_refused.2.1 0 = .ok (.aload_n 0, 1) := by decide +kernel
theorem dM_refused_1 : decode mM_refused.2.1 1 = .ok (.iconst 0, 1) := by decide +kernel
theorem dM_refused_2 : decode mM_refused.2.1 2 = .ok (.putfield 67, 3) := by decide +kernel
theorem dM_refused_5 : decode mM_refused.2.1 5 = .ok (.iload_n 1, 1) := by decide +kernel
theorem dM_refused_6 : decode mM_refused.2.1 6 = .ok (.ireturn, 1) := by decide +kernel
theorem dM_refusedLong_0 : decode mM_refusedLong.2.1 0 = .ok (.aload_n 0, 1) := by decide +kernel
theorem dM_refusedLong_1 : decode mM_refusedLong.2.1 1 = .ok (.iconst 0, 1) := by decide +kernel
theorem dM_refusedLong_2 : decode mM_refusedLong.2.1 2 = .ok (.putfield 67, 3) := by decide +kernel
theorem dM_refusedLong_5 : decode mM_refusedLong.2.1 5 = .ok (.invokestatic 71, 3) := by decide +kernel
theorem dM_refusedLong_8 : decode mM_refusedLong.2.1 8 = .ok (.lreturn, 1) := by decide +kernel
theorem dM_season_0 : decode mM_season.2.1 0 = .ok (.aload_n 0, 1) := by decide +kernel
theorem dM_season_1 : decode mM_season.2.1 1 = .ok (.iload_n 1, 1) := by decide +kernel
theorem dM_season_2 : decode mM_season.2.1 2 = .ok (.invokevirtual 154, 3) := by decide +kernel
theorem dM_season_5 : decode mM_season.2.1 5 = .ok (.ifCond .ne 10, 3) := by decide +kernel
theorem dM_season_8 : decode mM_season.2.1 8 = .ok (.iload_n 2, 1) := by decide +kernel
theorem dM_season_9 : decode mM_season.2.1 9 = .ok (.invokestatic 123, 3) := by decide +kernel
theorem dM_season_12 : decode mM_season.2.1 12 = .ok (.ifCond .eq 9, 3) := by decide +kernel
theorem dM_season_15 : decode mM_season.2.1 15 = .ok (.aload_n 0, 1) := by decide +kernel
theorem dM_season_16 : decode mM_season.2.1 16 = .ok (.iconst (-1), 1) := by decide +kernel
theorem dM_season_17 : decode mM_season.2.1 17 = .ok (.invokevirtual 127, 3) := by decide +kernel
theorem dM_season_20 : decode mM_season.2.1 20 = .ok (.ireturn, 1) := by decide +kernel
theorem dM_season_21 : decode mM_season.2.1 21 = .ok (.iload_n 3, 1) := by decide +kernel
theorem dM_season_22 : decode mM_season.2.1 22 = .ok (.i2l, 1) := by decide +kernel
theorem dM_season_23 : decode mM_season.2.1 23 = .ok (.lconst 0, 1) := by decide +kernel
theorem dM_season_24 : decode mM_season.2.1 24 = .ok (.ldc2_w 130, 3) := by decide +kernel
theorem dM_season_27 : decode mM_season.2.1 27 = .ok (.invokestatic 78, 3) := by decide +kernel
theorem dM_season_30 : decode mM_season.2.1 30 = .ok (.ifCond .eq 29, 3) := by decide +kernel
theorem dM_season_33 : decode mM_season.2.1 33 = .ok (.iload 5, 2) := by decide +kernel
theorem dM_season_35 : decode mM_season.2.1 35 = .ok (.i2l, 1) := by decide +kernel
theorem dM_season_36 : decode mM_season.2.1 36 = .ok (.lconst 0, 1) := by decide +kernel
theorem dM_season_37 : decode mM_season.2.1 37 = .ok (.ldc2_w 182, 3) := by decide +kernel
theorem dM_season_40 : decode mM_season.2.1 40 = .ok (.invokestatic 78, 3) := by decide +kernel
theorem dM_season_43 : decode mM_season.2.1 43 = .ok (.ifCond .eq 16, 3) := by decide +kernel
theorem dM_season_46 : decode mM_season.2.1 46 = .ok (.iload 6, 2) := by decide +kernel
theorem dM_season_48 : decode mM_season.2.1 48 = .ok (.i2l, 1) := by decide +kernel
theorem dM_season_49 : decode mM_season.2.1 49 = .ok (.lconst 0, 1) := by decide +kernel
theorem dM_season_50 : decode mM_season.2.1 50 = .ok (.ldc2_w 184, 3) := by decide +kernel
theorem dM_season_53 : decode mM_season.2.1 53 = .ok (.invokestatic 78, 3) := by decide +kernel
theorem dM_season_56 : decode mM_season.2.1 56 = .ok (.ifCond .ne 10, 3) := by decide +kernel
theorem dM_season_59 : decode mM_season.2.1 59 = .ok (.aload_n 0, 1) := by decide +kernel
theorem dM_season_60 : decode mM_season.2.1 60 = .ok (.bipush (-2), 2) := by decide +kernel
theorem dM_season_62 : decode mM_season.2.1 62 = .ok (.invokevirtual 127, 3) := by decide +kernel
theorem dM_season_65 : decode mM_season.2.1 65 = .ok (.ireturn, 1) := by decide +kernel
theorem dM_season_66 : decode mM_season.2.1 66 = .ok (.aload_n 0, 1) := by decide +kernel
theorem dM_season_67 : decode mM_season.2.1 67 = .ok (.iload_n 2, 1) := by decide +kernel
theorem dM_season_68 : decode mM_season.2.1 68 = .ok (.iload_n 3, 1) := by decide +kernel
theorem dM_season_69 : decode mM_season.2.1 69 = .ok (.iload 4, 2) := by decide +kernel
theorem dM_season_71 : decode mM_season.2.1 71 = .ok (.iload 5, 2) := by decide +kernel
theorem dM_season_73 : decode mM_season.2.1 73 = .ok (.invokevirtual 186, 3) := by decide +kernel
theorem dM_season_76 : decode mM_season.2.1 76 = .ok (.istore 7, 2) := by decide +kernel
theorem dM_season_78 : decode mM_season.2.1 78 = .ok (.iload 7, 2) := by decide +kernel
theorem dM_season_80 : decode mM_season.2.1 80 = .ok (.ifCond .ge 6, 3) := by decide +kernel
theorem dM_season_83 : decode mM_season.2.1 83 = .ok (.iload 7, 2) := by decide +kernel
theorem dM_season_85 : decode mM_season.2.1 85 = .ok (.ireturn, 1) := by decide +kernel
theorem dM_season_86 : decode mM_season.2.1 86 = .ok (.aload_n 0, 1) := by decide +kernel
theorem dM_season_87 : decode mM_season.2.1 87 = .ok (.iload_n 1, 1) := by decide +kernel
theorem dM_season_88 : decode mM_season.2.1 88 = .ok (.bipush 60, 2) := by decide +kernel
theorem dM_season_90 : decode mM_season.2.1 90 = .ok (.iload_n 2, 1) := by decide +kernel
theorem dM_season_91 : decode mM_season.2.1 91 = .ok (.imul, 1) := by decide +kernel
theorem dM_season_92 : decode mM_season.2.1 92 = .ok (.iload 4, 2) := by decide +kernel
theorem dM_season_94 : decode mM_season.2.1 94 = .ok (.iadd, 1) := by decide +kernel
theorem dM_season_95 : decode mM_season.2.1 95 = .ok (.iload 5, 2) := by decide +kernel
theorem dM_season_97 : decode mM_season.2.1 97 = .ok (.invokevirtual 189, 3) := by decide +kernel
theorem dM_season_100 : decode mM_season.2.1 100 = .ok (.iload 6, 2) := by decide +kernel
theorem dM_season_102 : decode mM_season.2.1 102 = .ok (.iconst 1, 1) := by decide +kernel
theorem dM_season_103 : decode mM_season.2.1 103 = .ok (.if_icmp .ne 8, 3) := by decide +kernel
theorem dM_season_106 : decode mM_season.2.1 106 = .ok (.aload_n 0, 1) := by decide +kernel
theorem dM_season_107 : decode mM_season.2.1 107 = .ok (.getfield 167, 3) := by decide +kernel
theorem dM_season_110 : decode mM_season.2.1 110 = .ok (.ireturn, 1) := by decide +kernel
theorem dM_season_111 : decode mM_season.2.1 111 = .ok (.aload_n 0, 1) := by decide +kernel
theorem dM_season_112 : decode mM_season.2.1 112 = .ok (.getfield 167, 3) := by decide +kernel
theorem dM_season_115 : decode mM_season.2.1 115 = .ok (.ifCond .lt 11, 3) := by decide +kernel
theorem dM_season_118 : decode mM_season.2.1 118 = .ok (.bipush (-100), 2) := by decide +kernel
theorem dM_season_120 : decode mM_season.2.1 120 = .ok (.aload_n 0, 1) := by decide +kernel
theorem dM_season_121 : decode mM_season.2.1 121 = .ok (.getfield 167, 3) := by decide +kernel
theorem dM_season_124 : decode mM_season.2.1 124 = .ok (.isub, 1) := by decide +kernel
theorem dM_season_125 : decode mM_season.2.1 125 = .ok (.ireturn, 1) := by decide +kernel
theorem dM_season_126 : decode mM_season.2.1 126 = .ok (.iload 6, 2) := by decide +kernel
theorem dM_season_128 : decode mM_season.2.1 128 = .ok (.tableswitch 47 0 3 #[32, 47, 37, 42], 32) := by decide +kernel
theorem dM_season_160 : decode mM_season.2.1 160 = .ok (.aload_n 0, 1) := by decide +kernel
theorem dM_season_161 : decode mM_season.2.1 161 = .ok (.getfield 173, 3) := by decide +kernel
theorem dM_season_164 : decode mM_season.2.1 164 = .ok (.ireturn, 1) := by decide +kernel
theorem dM_season_165 : decode mM_season.2.1 165 = .ok (.aload_n 0, 1) := by decide +kernel
theorem dM_season_166 : decode mM_season.2.1 166 = .ok (.getfield 176, 3) := by decide +kernel
theorem dM_season_169 : decode mM_season.2.1 169 = .ok (.ireturn, 1) := by decide +kernel
theorem dM_season_170 : decode mM_season.2.1 170 = .ok (.aload_n 0, 1) := by decide +kernel
theorem dM_season_171 : decode mM_season.2.1 171 = .ok (.getfield 170, 3) := by decide +kernel
theorem dM_season_174 : decode mM_season.2.1 174 = .ok (.ireturn, 1) := by decide +kernel
theorem dM_season_175 : decode mM_season.2.1 175 = .ok (.aload_n 0, 1) := by decide +kernel
theorem dM_season_176 : decode mM_season.2.1 176 = .ok (.getfield 179, 3) := by decide +kernel
theorem dM_season_179 : decode mM_season.2.1 179 = .ok (.ireturn, 1) := by decide +kernel
theorem dM_share_0 : decode mM_share.2.1 0 = .ok (.lload_n 0, 1) := by decide +kernel
theorem dM_share_1 : decode mM_share.2.1 1 = .ok (.lstore 5, 2) := by decide +kernel
theorem dM_share_3 : decode mM_share.2.1 3 = .ok (.lload_n 2, 1) := by decide +kernel
theorem dM_share_4 : decode mM_share.2.1 4 = .ok (.lstore 7, 2) := by decide +kernel
theorem dM_share_6 : decode mM_share.2.1 6 = .ok (.lload 7, 2) := by decide +kernel
theorem dM_share_8 : decode mM_share.2.1 8 = .ok (.lconst 0, 1) := by decide +kernel
theorem dM_share_9 : decode mM_share.2.1 9 = .ok (.lcmp, 1) := by decide +kernel
theorem dM_share_10 : decode mM_share.2.1 10 = .ok (.ifCond .eq 21, 3) := by decide +kernel
theorem dM_share_13 : decode mM_share.2.1 13 = .ok (.lload 5, 2) := by decide +kernel
theorem dM_share_15 : decode mM_share.2.1 15 = .ok (.lload 7, 2) := by decide +kernel
theorem dM_share_17 : decode mM_share.2.1 17 = .ok (.lrem, 1) := by decide +kernel
theorem dM_share_18 : decode mM_share.2.1 18 = .ok (.lstore 9, 2) := by decide +kernel
theorem dM_share_20 : decode mM_share.2.1 20 = .ok (.lload 7, 2) := by decide +kernel
theorem dM_share_22 : decode mM_share.2.1 22 = .ok (.lstore 5, 2) := by decide +kernel
theorem dM_share_24 : decode mM_share.2.1 24 = .ok (.lload 9, 2) := by decide +kernel
theorem dM_share_26 : decode mM_share.2.1 26 = .ok (.lstore 7, 2) := by decide +kernel
theorem dM_share_28 : decode mM_share.2.1 28 = .ok (.goto (-22), 3) := by decide +kernel
theorem dM_share_31 : decode mM_share.2.1 31 = .ok (.iload 4, 2) := by decide +kernel
theorem dM_share_33 : decode mM_share.2.1 33 = .ok (.ifCond .ne 7, 3) := by decide +kernel
theorem dM_share_36 : decode mM_share.2.1 36 = .ok (.lload_n 0, 1) := by decide +kernel
theorem dM_share_37 : decode mM_share.2.1 37 = .ok (.goto 4, 3) := by decide +kernel
theorem dM_share_40 : decode mM_share.2.1 40 = .ok (.lload_n 2, 1) := by decide +kernel
theorem dM_share_41 : decode mM_share.2.1 41 = .ok (.lload 5, 2) := by decide +kernel
theorem dM_share_43 : decode mM_share.2.1 43 = .ok (.ldiv, 1) := by decide +kernel
theorem dM_share_44 : decode mM_share.2.1 44 = .ok (.lreturn, 1) := by decide +kernel
theorem dM_sheet_0 : decode mM_sheet.2.1 0 = .ok (.iload_n 1, 1) := by decide +kernel
theorem dM_sheet_1 : decode mM_sheet.2.1 1 = .ok (.invokestatic 123, 3) := by decide +kernel
theorem dM_sheet_4 : decode mM_sheet.2.1 4 = .ok (.ifCond .eq 9, 3) := by decide +kernel
theorem dM_sheet_7 : decode mM_sheet.2.1 7 = .ok (.aload_n 0, 1) := by decide +kernel
theorem dM_sheet_8 : decode mM_sheet.2.1 8 = .ok (.iconst (-1), 1) := by decide +kernel
theorem dM_sheet_9 : decode mM_sheet.2.1 9 = .ok (.invokevirtual 127, 3) := by decide +kernel
theorem dM_sheet_12 : decode mM_sheet.2.1 12 = .ok (.ireturn, 1) := by decide +kernel
theorem dM_sheet_13 : decode mM_sheet.2.1 13 = .ok (.iload_n 2, 1) := by decide +kernel
theorem dM_sheet_14 : decode mM_sheet.2.1 14 = .ok (.i2l, 1) := by decide +kernel
theorem dM_sheet_15 : decode mM_sheet.2.1 15 = .ok (.lconst 0, 1) := by decide +kernel
theorem dM_sheet_16 : decode mM_sheet.2.1 16 = .ok (.ldc2_w 130, 3) := by decide +kernel
theorem dM_sheet_19 : decode mM_sheet.2.1 19 = .ok (.invokestatic 78, 3) := by decide +kernel
theorem dM_sheet_22 : decode mM_sheet.2.1 22 = .ok (.ifCond .eq 9, 3) := by decide +kernel
theorem dM_sheet_25 : decode mM_sheet.2.1 25 = .ok (.iload_n 3, 1) := by decide +kernel
theorem dM_sheet_26 : decode mM_sheet.2.1 26 = .ok (.bipush 60, 2) := by decide +kernel
theorem dM_sheet_28 : decode mM_sheet.2.1 28 = .ok (.if_icmp .le 10, 3) := by decide +kernel
theorem dM_sheet_31 : decode mM_sheet.2.1 31 = .ok (.aload_n 0, 1) := by decide +kernel
theorem dM_sheet_32 : decode mM_sheet.2.1 32 = .ok (.bipush (-2), 2) := by decide +kernel
theorem dM_sheet_34 : decode mM_sheet.2.1 34 = .ok (.invokevirtual 127, 3) := by decide +kernel
theorem dM_sheet_37 : decode mM_sheet.2.1 37 = .ok (.ireturn, 1) := by decide +kernel
theorem dM_sheet_38 : decode mM_sheet.2.1 38 = .ok (.iload_n 3, 1) := by decide +kernel
theorem dM_sheet_39 : decode mM_sheet.2.1 39 = .ok (.ifCond .ge 9, 3) := by decide +kernel
theorem dM_sheet_42 : decode mM_sheet.2.1 42 = .ok (.aload_n 0, 1) := by decide +kernel
theorem dM_sheet_43 : decode mM_sheet.2.1 43 = .ok (.iconst 4, 1) := by decide +kernel
theorem dM_sheet_44 : decode mM_sheet.2.1 44 = .ok (.invokevirtual 115, 3) := by decide +kernel
theorem dM_sheet_47 : decode mM_sheet.2.1 47 = .ok (.ireturn, 1) := by decide +kernel
theorem dM_sheet_48 : decode mM_sheet.2.1 48 = .ok (.aload_n 0, 1) := by decide +kernel
theorem dM_sheet_49 : decode mM_sheet.2.1 49 = .ok (.getfield 53, 3) := by decide +kernel
theorem dM_sheet_52 : decode mM_sheet.2.1 52 = .ok (.iload_n 1, 1) := by decide +kernel
theorem dM_sheet_53 : decode mM_sheet.2.1 53 = .ok (.iload_n 3, 1) := by decide +kernel
theorem dM_sheet_54 : decode mM_sheet.2.1 54 = .ok (.iastore, 1) := by decide +kernel
theorem dM_sheet_55 : decode mM_sheet.2.1 55 = .ok (.aload_n 0, 1) := by decide +kernel
theorem dM_sheet_56 : decode mM_sheet.2.1 56 = .ok (.getfield 56, 3) := by decide +kernel
theorem dM_sheet_59 : decode mM_sheet.2.1 59 = .ok (.iload_n 1, 1) := by decide +kernel
theorem dM_sheet_60 : decode mM_sheet.2.1 60 = .ok (.iload_n 2, 1) := by decide +kernel
theorem dM_sheet_61 : decode mM_sheet.2.1 61 = .ok (.iastore, 1) := by decide +kernel
theorem dM_sheet_62 : decode mM_sheet.2.1 62 = .ok (.iconst 0, 1) := by decide +kernel
theorem dM_sheet_63 : decode mM_sheet.2.1 63 = .ok (.istore 4, 2) := by decide +kernel
theorem dM_sheet_65 : decode mM_sheet.2.1 65 = .ok (.iload 4, 2) := by decide +kernel
theorem dM_sheet_67 : decode mM_sheet.2.1 67 = .ok (.iload_n 3, 1) := by decide +kernel
theorem dM_sheet_68 : decode mM_sheet.2.1 68 = .ok (.if_icmp .ge 22, 3) := by decide +kernel
theorem dM_sheet_71 : decode mM_sheet.2.1 71 = .ok (.aload_n 0, 1) := by decide +kernel
theorem dM_sheet_72 : decode mM_sheet.2.1 72 = .ok (.getfield 59, 3) := by decide +kernel
theorem dM_sheet_75 : decode mM_sheet.2.1 75 = .ok (.bipush 60, 2) := by decide +kernel
theorem dM_sheet_77 : decode mM_sheet.2.1 77 = .ok (.iload_n 1, 1) := by decide +kernel
theorem dM_sheet_78 : decode mM_sheet.2.1 78 = .ok (.imul, 1) := by decide +kernel
theorem dM_sheet_79 : decode mM_sheet.2.1 79 = .ok (.iload 4, 2) := by decide +kernel
theorem dM_sheet_81 : decode mM_sheet.2.1 81 = .ok (.iadd, 1) := by decide +kernel
theorem dM_sheet_82 : decode mM_sheet.2.1 82 = .ok (.iconst 0, 1) := by decide +kernel
theorem dM_sheet_83 : decode mM_sheet.2.1 83 = .ok (.iastore, 1) := by decide +kernel
theorem dM_sheet_84 : decode mM_sheet.2.1 84 = .ok (.iinc 4 1, 3) := by decide +kernel
theorem dM_sheet_87 : decode mM_sheet.2.1 87 = .ok (.goto (-22), 3) := by decide +kernel
theorem dM_sheet_90 : decode mM_sheet.2.1 90 = .ok (.aload_n 0, 1) := by decide +kernel
theorem dM_sheet_91 : decode mM_sheet.2.1 91 = .ok (.iconst 1, 1) := by decide +kernel
theorem dM_sheet_92 : decode mM_sheet.2.1 92 = .ok (.invokevirtual 127, 3) := by decide +kernel
theorem dM_sheet_95 : decode mM_sheet.2.1 95 = .ok (.ireturn, 1) := by decide +kernel
theorem dM_stars_0 : decode mM_stars.2.1 0 = .ok (.iload_n 1, 1) := by decide +kernel
theorem dM_stars_1 : decode mM_stars.2.1 1 = .ok (.i2l, 1) := by decide +kernel
theorem dM_stars_2 : decode mM_stars.2.1 2 = .ok (.lconst 0, 1) := by decide +kernel
theorem dM_stars_3 : decode mM_stars.2.1 3 = .ok (.ldc2_w 165, 3) := by decide +kernel
theorem dM_stars_6 : decode mM_stars.2.1 6 = .ok (.invokestatic 78, 3) := by decide +kernel
theorem dM_stars_9 : decode mM_stars.2.1 9 = .ok (.ifCond .ne 6, 3) := by decide +kernel
theorem dM_stars_12 : decode mM_stars.2.1 12 = .ok (.bipush (-2), 2) := by decide +kernel
theorem dM_stars_14 : decode mM_stars.2.1 14 = .ok (.ireturn, 1) := by decide +kernel
theorem dM_stars_15 : decode mM_stars.2.1 15 = .ok (.aload_n 0, 1) := by decide +kernel
theorem dM_stars_16 : decode mM_stars.2.1 16 = .ok (.getfield 75, 3) := by decide +kernel
theorem dM_stars_19 : decode mM_stars.2.1 19 = .ok (.ifCond .ne 6, 3) := by decide +kernel
theorem dM_stars_22 : decode mM_stars.2.1 22 = .ok (.bipush (-3), 2) := by decide +kernel
theorem dM_stars_24 : decode mM_stars.2.1 24 = .ok (.ireturn, 1) := by decide +kernel
theorem dM_stars_25 : decode mM_stars.2.1 25 = .ok (.aload_n 0, 1) := by decide +kernel
theorem dM_stars_26 : decode mM_stars.2.1 26 = .ok (.getfield 139, 3) := by decide +kernel
theorem dM_stars_29 : decode mM_stars.2.1 29 = .ok (.istore_n 2, 1) := by decide +kernel
theorem dM_stars_30 : decode mM_stars.2.1 30 = .ok (.aload_n 0, 1) := by decide +kernel
theorem dM_stars_31 : decode mM_stars.2.1 31 = .ok (.iload_n 1, 1) := by decide +kernel
theorem dM_stars_32 : decode mM_stars.2.1 32 = .ok (.putfield 139, 3) := by decide +kernel
theorem dM_stars_35 : decode mM_stars.2.1 35 = .ok (.iload_n 2, 1) := by decide +kernel
theorem dM_stars_36 : decode mM_stars.2.1 36 = .ok (.ireturn, 1) := by decide +kernel
theorem dM_strict_0 : decode mM_strict.2.1 0 = .ok (.iload_n 1, 1) := by decide +kernel
theorem dM_strict_1 : decode mM_strict.2.1 1 = .ok (.i2l, 1) := by decide +kernel
theorem dM_strict_2 : decode mM_strict.2.1 2 = .ok (.lconst 1, 1) := by decide +kernel
theorem dM_strict_3 : decode mM_strict.2.1 3 = .ok (.ldc2_w 163, 3) := by decide +kernel
theorem dM_strict_6 : decode mM_strict.2.1 6 = .ok (.invokestatic 78, 3) := by decide +kernel
theorem dM_strict_9 : decode mM_strict.2.1 9 = .ok (.ifCond .ne 6, 3) := by decide +kernel
theorem dM_strict_12 : decode mM_strict.2.1 12 = .ok (.bipush (-2), 2) := by decide +kernel
theorem dM_strict_14 : decode mM_strict.2.1 14 = .ok (.ireturn, 1) := by decide +kernel
theorem dM_strict_15 : decode mM_strict.2.1 15 = .ok (.aload_n 0, 1) := by decide +kernel
theorem dM_strict_16 : decode mM_strict.2.1 16 = .ok (.getfield 75, 3) := by decide +kernel
theorem dM_strict_19 : decode mM_strict.2.1 19 = .ok (.ifCond .ne 6, 3) := by decide +kernel
theorem dM_strict_22 : decode mM_strict.2.1 22 = .ok (.bipush (-3), 2) := by decide +kernel
theorem dM_strict_24 : decode mM_strict.2.1 24 = .ok (.ireturn, 1) := by decide +kernel
theorem dM_strict_25 : decode mM_strict.2.1 25 = .ok (.aload_n 0, 1) := by decide +kernel
theorem dM_strict_26 : decode mM_strict.2.1 26 = .ok (.getfield 142, 3) := by decide +kernel
theorem dM_strict_29 : decode mM_strict.2.1 29 = .ok (.istore_n 2, 1) := by decide +kernel
theorem dM_strict_30 : decode mM_strict.2.1 30 = .ok (.aload_n 0, 1) := by decide +kernel
theorem dM_strict_31 : decode mM_strict.2.1 31 = .ok (.iload_n 1, 1) := by decide +kernel
theorem dM_strict_32 : decode mM_strict.2.1 32 = .ok (.putfield 142, 3) := by decide +kernel
theorem dM_strict_35 : decode mM_strict.2.1 35 = .ok (.iload_n 2, 1) := by decide +kernel
theorem dM_strict_36 : decode mM_strict.2.1 36 = .ok (.ireturn, 1) := by decide +kernel
theorem dM_tastes_0 : decode mM_tastes.2.1 0 = .ok (.aload_n 0, 1) := by decide +kernel
theorem dM_tastes_1 : decode mM_tastes.2.1 1 = .ok (.iload_n 1, 1) := by decide +kernel
theorem dM_tastes_2 : decode mM_tastes.2.1 2 = .ok (.invokevirtual 154, 3) := by decide +kernel
theorem dM_tastes_5 : decode mM_tastes.2.1 5 = .ok (.ifCond .eq 5, 3) := by decide +kernel
theorem dM_tastes_8 : decode mM_tastes.2.1 8 = .ok (.iconst (-1), 1) := by decide +kernel
theorem dM_tastes_9 : decode mM_tastes.2.1 9 = .ok (.ireturn, 1) := by decide +kernel
theorem dM_tastes_10 : decode mM_tastes.2.1 10 = .ok (.aload_n 0, 1) := by decide +kernel
theorem dM_tastes_11 : decode mM_tastes.2.1 11 = .ok (.getfield 19, 3) := by decide +kernel
theorem dM_tastes_14 : decode mM_tastes.2.1 14 = .ok (.iload_n 1, 1) := by decide +kernel
theorem dM_tastes_15 : decode mM_tastes.2.1 15 = .ok (.iaload, 1) := by decide +kernel
theorem dM_tastes_16 : decode mM_tastes.2.1 16 = .ok (.istore_n 2, 1) := by decide +kernel
theorem dM_tastes_17 : decode mM_tastes.2.1 17 = .ok (.iconst 0, 1) := by decide +kernel
theorem dM_tastes_18 : decode mM_tastes.2.1 18 = .ok (.istore_n 3, 1) := by decide +kernel
theorem dM_tastes_19 : decode mM_tastes.2.1 19 = .ok (.iconst 0, 1) := by decide +kernel
theorem dM_tastes_20 : decode mM_tastes.2.1 20 = .ok (.istore 4, 2) := by decide +kernel
theorem dM_tastes_22 : decode mM_tastes.2.1 22 = .ok (.iload 4, 2) := by decide +kernel
theorem dM_tastes_24 : decode mM_tastes.2.1 24 = .ok (.bipush 10, 2) := by decide +kernel
theorem dM_tastes_26 : decode mM_tastes.2.1 26 = .ok (.if_icmp .ge 35, 3) := by decide +kernel
theorem dM_tastes_29 : decode mM_tastes.2.1 29 = .ok (.aload_n 0, 1) := by decide +kernel
theorem dM_tastes_30 : decode mM_tastes.2.1 30 = .ok (.getfield 19, 3) := by decide +kernel
theorem dM_tastes_33 : decode mM_tastes.2.1 33 = .ok (.iload_n 1, 1) := by decide +kernel
theorem dM_tastes_34 : decode mM_tastes.2.1 34 = .ok (.iload 4, 2) := by decide +kernel
theorem dM_tastes_36 : decode mM_tastes.2.1 36 = .ok (.iastore, 1) := by decide +kernel
theorem dM_tastes_37 : decode mM_tastes.2.1 37 = .ok (.iload_n 3, 1) := by decide +kernel
theorem dM_tastes_38 : decode mM_tastes.2.1 38 = .ok (.aload_n 0, 1) := by decide +kernel
theorem dM_tastes_39 : decode mM_tastes.2.1 39 = .ok (.invokevirtual 216, 3) := by decide +kernel
theorem dM_tastes_42 : decode mM_tastes.2.1 42 = .ok (.ifCond .eq 10, 3) := by decide +kernel
theorem dM_tastes_45 : decode mM_tastes.2.1 45 = .ok (.iconst 1, 1) := by decide +kernel
theorem dM_tastes_46 : decode mM_tastes.2.1 46 = .ok (.iload 4, 2) := by decide +kernel
theorem dM_tastes_48 : decode mM_tastes.2.1 48 = .ok (.ishl, 1) := by decide +kernel
theorem dM_tastes_49 : decode mM_tastes.2.1 49 = .ok (.goto 4, 3) := by decide +kernel
theorem dM_tastes_52 : decode mM_tastes.2.1 52 = .ok (.iconst 0, 1) := by decide +kernel
theorem dM_tastes_53 : decode mM_tastes.2.1 53 = .ok (.ior, 1) := by decide +kernel
theorem dM_tastes_54 : decode mM_tastes.2.1 54 = .ok (.istore_n 3, 1) := by decide +kernel
theorem dM_tastes_55 : decode mM_tastes.2.1 55 = .ok (.iinc 4 1, 3) := by decide +kernel
theorem dM_tastes_58 : decode mM_tastes.2.1 58 = .ok (.goto (-36), 3) := by decide +kernel
theorem dM_tastes_61 : decode mM_tastes.2.1 61 = .ok (.aload_n 0, 1) := by decide +kernel
theorem dM_tastes_62 : decode mM_tastes.2.1 62 = .ok (.getfield 19, 3) := by decide +kernel
theorem dM_tastes_65 : decode mM_tastes.2.1 65 = .ok (.iload_n 1, 1) := by decide +kernel
theorem dM_tastes_66 : decode mM_tastes.2.1 66 = .ok (.iload_n 2, 1) := by decide +kernel
theorem dM_tastes_67 : decode mM_tastes.2.1 67 = .ok (.iastore, 1) := by decide +kernel
theorem dM_tastes_68 : decode mM_tastes.2.1 68 = .ok (.iload_n 3, 1) := by decide +kernel
theorem dM_tastes_69 : decode mM_tastes.2.1 69 = .ok (.ireturn, 1) := by decide +kernel
theorem dM_tell_0 : decode mM_tell.2.1 0 = .ok (.aload_n 0, 1) := by decide +kernel
theorem dM_tell_1 : decode mM_tell.2.1 1 = .ok (.iload_n 1, 1) := by decide +kernel
theorem dM_tell_2 : decode mM_tell.2.1 2 = .ok (.invokevirtual 154, 3) := by decide +kernel
theorem dM_tell_5 : decode mM_tell.2.1 5 = .ok (.ifCond .eq 5, 3) := by decide +kernel
theorem dM_tell_8 : decode mM_tell.2.1 8 = .ok (.iconst (-1), 1) := by decide +kernel
theorem dM_tell_9 : decode mM_tell.2.1 9 = .ok (.ireturn, 1) := by decide +kernel
theorem dM_tell_10 : decode mM_tell.2.1 10 = .ok (.aload_n 0, 1) := by decide +kernel
theorem dM_tell_11 : decode mM_tell.2.1 11 = .ok (.getfield 16, 3) := by decide +kernel
theorem dM_tell_14 : decode mM_tell.2.1 14 = .ok (.iload_n 1, 1) := by decide +kernel
theorem dM_tell_15 : decode mM_tell.2.1 15 = .ok (.iaload, 1) := by decide +kernel
theorem dM_tell_16 : decode mM_tell.2.1 16 = .ok (.istore_n 2, 1) := by decide +kernel
theorem dM_tell_17 : decode mM_tell.2.1 17 = .ok (.iload_n 2, 1) := by decide +kernel
theorem dM_tell_18 : decode mM_tell.2.1 18 = .ok (.iconst 2, 1) := by decide +kernel
theorem dM_tell_19 : decode mM_tell.2.1 19 = .ok (.if_icmp .ne 8, 3) := by decide +kernel
theorem dM_tell_22 : decode mM_tell.2.1 22 = .ok (.aload_n 0, 1) := by decide +kernel
theorem dM_tell_23 : decode mM_tell.2.1 23 = .ok (.iconst 3, 1) := by decide +kernel
theorem dM_tell_24 : decode mM_tell.2.1 24 = .ok (.invokevirtual 239, 3) := by decide +kernel
theorem dM_tell_27 : decode mM_tell.2.1 27 = .ok (.iload_n 2, 1) := by decide +kernel
theorem dM_tell_28 : decode mM_tell.2.1 28 = .ok (.ifCond .le 8, 3) := by decide +kernel
theorem dM_tell_31 : decode mM_tell.2.1 31 = .ok (.aload_n 0, 1) := by decide +kernel
theorem dM_tell_32 : decode mM_tell.2.1 32 = .ok (.iconst 2, 1) := by decide +kernel
theorem dM_tell_33 : decode mM_tell.2.1 33 = .ok (.invokevirtual 239, 3) := by decide +kernel
theorem dM_tell_36 : decode mM_tell.2.1 36 = .ok (.aload_n 0, 1) := by decide +kernel
theorem dM_tell_37 : decode mM_tell.2.1 37 = .ok (.iconst 1, 1) := by decide +kernel
theorem dM_tell_38 : decode mM_tell.2.1 38 = .ok (.invokevirtual 239, 3) := by decide +kernel
theorem dM_tell_41 : decode mM_tell.2.1 41 = .ok (.iload_n 2, 1) := by decide +kernel
theorem dM_tell_42 : decode mM_tell.2.1 42 = .ok (.iconst 2, 1) := by decide +kernel
theorem dM_tell_43 : decode mM_tell.2.1 43 = .ok (.if_icmp .ne 8, 3) := by decide +kernel
theorem dM_tell_46 : decode mM_tell.2.1 46 = .ok (.aload_n 0, 1) := by decide +kernel
theorem dM_tell_47 : decode mM_tell.2.1 47 = .ok (.iconst 1, 1) := by decide +kernel
theorem dM_tell_48 : decode mM_tell.2.1 48 = .ok (.invokevirtual 239, 3) := by decide +kernel
theorem dM_tell_51 : decode mM_tell.2.1 51 = .ok (.aload_n 0, 1) := by decide +kernel
theorem dM_tell_52 : decode mM_tell.2.1 52 = .ok (.getfield 19, 3) := by decide +kernel
theorem dM_tell_55 : decode mM_tell.2.1 55 = .ok (.iload_n 1, 1) := by decide +kernel
theorem dM_tell_56 : decode mM_tell.2.1 56 = .ok (.iaload, 1) := by decide +kernel
theorem dM_tell_57 : decode mM_tell.2.1 57 = .ok (.istore_n 3, 1) := by decide +kernel
theorem dM_tell_58 : decode mM_tell.2.1 58 = .ok (.iload_n 2, 1) := by decide +kernel
theorem dM_tell_59 : decode mM_tell.2.1 59 = .ok (.ifCond .ne 7, 3) := by decide +kernel
theorem dM_tell_62 : decode mM_tell.2.1 62 = .ok (.iload_n 3, 1) := by decide +kernel
theorem dM_tell_63 : decode mM_tell.2.1 63 = .ok (.goto 21, 3) := by decide +kernel
theorem dM_tell_66 : decode mM_tell.2.1 66 = .ok (.iload_n 2, 1) := by decide +kernel
theorem dM_tell_67 : decode mM_tell.2.1 67 = .ok (.iconst 1, 1) := by decide +kernel
theorem dM_tell_68 : decode mM_tell.2.1 68 = .ok (.if_icmp .ne 10, 3) := by decide +kernel
theorem dM_tell_71 : decode mM_tell.2.1 71 = .ok (.iload_n 3, 1) := by decide +kernel
theorem dM_tell_72 : decode mM_tell.2.1 72 = .ok (.bipush 100, 2) := by decide +kernel
theorem dM_tell_74 : decode mM_tell.2.1 74 = .ok (.iadd, 1) := by decide +kernel
theorem dM_tell_75 : decode mM_tell.2.1 75 = .ok (.goto 9, 3) := by decide +kernel
theorem dM_tell_78 : decode mM_tell.2.1 78 = .ok (.iconst 2, 1) := by decide +kernel
theorem dM_tell_79 : decode mM_tell.2.1 79 = .ok (.iload_n 3, 1) := by decide +kernel
theorem dM_tell_80 : decode mM_tell.2.1 80 = .ok (.imul, 1) := by decide +kernel
theorem dM_tell_81 : decode mM_tell.2.1 81 = .ok (.bipush 100, 2) := by decide +kernel
theorem dM_tell_83 : decode mM_tell.2.1 83 = .ok (.iadd, 1) := by decide +kernel
theorem dM_tell_84 : decode mM_tell.2.1 84 = .ok (.ireturn, 1) := by decide +kernel
theorem dM_trace_0 : decode mM_trace.2.1 0 = .ok (.aload_n 0, 1) := by decide +kernel
theorem dM_trace_1 : decode mM_trace.2.1 1 = .ok (.getfield 236, 3) := by decide +kernel
theorem dM_trace_4 : decode mM_trace.2.1 4 = .ok (.ireturn, 1) := by decide +kernel
theorem dM_traced_0 : decode mM_traced.2.1 0 = .ok (.aload_n 0, 1) := by decide +kernel
theorem dM_traced_1 : decode mM_traced.2.1 1 = .ok (.bipush 31, 2) := by decide +kernel
theorem dM_traced_3 : decode mM_traced.2.1 3 = .ok (.aload_n 0, 1) := by decide +kernel
theorem dM_traced_4 : decode mM_traced.2.1 4 = .ok (.getfield 236, 3) := by decide +kernel
theorem dM_traced_7 : decode mM_traced.2.1 7 = .ok (.imul, 1) := by decide +kernel
theorem dM_traced_8 : decode mM_traced.2.1 8 = .ok (.iload_n 1, 1) := by decide +kernel
theorem dM_traced_9 : decode mM_traced.2.1 9 = .ok (.iadd, 1) := by decide +kernel
theorem dM_traced_10 : decode mM_traced.2.1 10 = .ok (.putfield 236, 3) := by decide +kernel
theorem dM_traced_13 : decode mM_traced.2.1 13 = .ok (.return_, 1) := by decide +kernel
end
