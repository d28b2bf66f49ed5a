section
-- ===== PART A: goes FIRST, ahead of the names: the tables' words, and 'selects' of the private methods out of them =====
/-- a private method of a class that the tables say can be made, by its rows of tables_1 -/
def lw_okq (q : MethodName × Nat) : Prop := (q.1.cls ≠ "java/lang/invoke/MethodHandle" ∧ q.1.cls ≠ "java/lang/invoke/VarHandle") ∧ Cond.instantiable q.1.cls q.2 ∈ tables_1 ∧ Cond.privateMethod q.1 ∈ tables_1 ∧ Cond.instanceMethod q.1 ∈ tables_1
theorem lw_p0 : lw_okq (⟨"FilmWhole", "isCopy", "(I)Z"⟩, 9) := ⟨⟨by decide +kernel, by decide +kernel⟩, List.mem_of_getElem? (i := 15) (by decide +kernel), List.mem_of_getElem? (i := 232) (by decide +kernel), List.mem_of_getElem? (i := 233) (by decide +kernel)⟩
theorem lw_p1 : lw_okq (⟨"FilmWhole", "isFrame", "(II)Z"⟩, 9) := ⟨⟨by decide +kernel, by decide +kernel⟩, List.mem_of_getElem? (i := 15) (by decide +kernel), List.mem_of_getElem? (i := 273) (by decide +kernel), List.mem_of_getElem? (i := 274) (by decide +kernel)⟩
theorem lw_p2 : lw_okq (⟨"FilmWhole", "changeWear", "(III)V"⟩, 9) := ⟨⟨by decide +kernel, by decide +kernel⟩, List.mem_of_getElem? (i := 15) (by decide +kernel), List.mem_of_getElem? (i := 281) (by decide +kernel), List.mem_of_getElem? (i := 282) (by decide +kernel)⟩
theorem lw_p3 : lw_okq (⟨"FilmWhole$Steps", "dropOldest", "()V"⟩, 4) := ⟨⟨by decide +kernel, by decide +kernel⟩, List.mem_of_getElem? (i := 112) (by decide +kernel), List.mem_of_getElem? (i := 289) (by decide +kernel), List.mem_of_getElem? (i := 290) (by decide +kernel)⟩
theorem lw_p4 : lw_okq (⟨"FilmWhole", "isRow", "(I)Z"⟩, 9) := ⟨⟨by decide +kernel, by decide +kernel⟩, List.mem_of_getElem? (i := 15) (by decide +kernel), List.mem_of_getElem? (i := 318) (by decide +kernel), List.mem_of_getElem? (i := 319) (by decide +kernel)⟩
theorem lw_p5 : lw_okq (⟨"FilmWhole", "sizeOfRow", "(I)I"⟩, 9) := ⟨⟨by decide +kernel, by decide +kernel⟩, List.mem_of_getElem? (i := 15) (by decide +kernel), List.mem_of_getElem? (i := 322) (by decide +kernel), List.mem_of_getElem? (i := 323) (by decide +kernel)⟩
theorem lw_p6 : lw_okq (⟨"FilmWhole", "marksOfRow", "(I)[I"⟩, 9) := ⟨⟨by decide +kernel, by decide +kernel⟩, List.mem_of_getElem? (i := 15) (by decide +kernel), List.mem_of_getElem? (i := 326) (by decide +kernel), List.mem_of_getElem? (i := 327) (by decide +kernel)⟩
theorem lw_p7 : lw_okq (⟨"FilmWhole$Lining", "fillLeast", "([II[II)V"⟩, 2) := ⟨⟨by decide +kernel, by decide +kernel⟩, List.mem_of_getElem? (i := 47) (by decide +kernel), List.mem_of_getElem? (i := 334) (by decide +kernel), List.mem_of_getElem? (i := 335) (by decide +kernel)⟩
theorem lw_p8 : lw_okq (⟨"FilmWhole$Lining", "canPair", "([II[II)Z"⟩, 2) := ⟨⟨by decide +kernel, by decide +kernel⟩, List.mem_of_getElem? (i := 47) (by decide +kernel), List.mem_of_getElem? (i := 347) (by decide +kernel), List.mem_of_getElem? (i := 348) (by decide +kernel)⟩
theorem lw_p9 : lw_okq (⟨"FilmWhole$Lining", "canLeaveSecond", "(II)Z"⟩, 2) := ⟨⟨by decide +kernel, by decide +kernel⟩, List.mem_of_getElem? (i := 47) (by decide +kernel), List.mem_of_getElem? (i := 351) (by decide +kernel), List.mem_of_getElem? (i := 352) (by decide +kernel)⟩
theorem lw_p10 : lw_okq (⟨"FilmWhole$Sources", "fillLeast", "()V"⟩, 8) := ⟨⟨by decide +kernel, by decide +kernel⟩, List.mem_of_getElem? (i := 161) (by decide +kernel), List.mem_of_getElem? (i := 382) (by decide +kernel), List.mem_of_getElem? (i := 383) (by decide +kernel)⟩
theorem lw_p11 : lw_okq (⟨"FilmWhole$Sources", "canBe", "(II)Z"⟩, 8) := ⟨⟨by decide +kernel, by decide +kernel⟩, List.mem_of_getElem? (i := 161) (by decide +kernel), List.mem_of_getElem? (i := 386) (by decide +kernel), List.mem_of_getElem? (i := 387) (by decide +kernel)⟩
theorem lw_p12 : lw_okq (⟨"FilmWhole$Sources", "ownPrice", "(II)I"⟩, 8) := ⟨⟨by decide +kernel, by decide +kernel⟩, List.mem_of_getElem? (i := 161) (by decide +kernel), List.mem_of_getElem? (i := 390) (by decide +kernel), List.mem_of_getElem? (i := 391) (by decide +kernel)⟩
theorem lw_p13 : lw_okq (⟨"FilmWhole$Sources", "leastBehind", "(II)I"⟩, 8) := ⟨⟨by decide +kernel, by decide +kernel⟩, List.mem_of_getElem? (i := 161) (by decide +kernel), List.mem_of_getElem? (i := 394) (by decide +kernel), List.mem_of_getElem? (i := 395) (by decide +kernel)⟩
theorem lw_p14 : lw_okq (⟨"FilmWhole$Sources", "bestSource", "(II)I"⟩, 8) := ⟨⟨by decide +kernel, by decide +kernel⟩, List.mem_of_getElem? (i := 161) (by decide +kernel), List.mem_of_getElem? (i := 398) (by decide +kernel), List.mem_of_getElem? (i := 399) (by decide +kernel)⟩
theorem lw_p15 : lw_okq (⟨"FilmWhole$Sources", "joinPrice", "(III)I"⟩, 8) := ⟨⟨by decide +kernel, by decide +kernel⟩, List.mem_of_getElem? (i := 161) (by decide +kernel), List.mem_of_getElem? (i := 403) (by decide +kernel), List.mem_of_getElem? (i := 404) (by decide +kernel)⟩
def lw_privs_1 : List (MethodName × Nat) := [(⟨"FilmWhole", "isCopy", "(I)Z"⟩, 9), (⟨"FilmWhole", "isFrame", "(II)Z"⟩, 9), (⟨"FilmWhole", "changeWear", "(III)V"⟩, 9), (⟨"FilmWhole$Steps", "dropOldest", "()V"⟩, 4), (⟨"FilmWhole", "isRow", "(I)Z"⟩, 9), (⟨"FilmWhole", "sizeOfRow", "(I)I"⟩, 9), (⟨"FilmWhole", "marksOfRow", "(I)[I"⟩, 9), (⟨"FilmWhole$Lining", "fillLeast", "([II[II)V"⟩, 2), (⟨"FilmWhole$Lining", "canPair", "([II[II)Z"⟩, 2), (⟨"FilmWhole$Lining", "canLeaveSecond", "(II)Z"⟩, 2), (⟨"FilmWhole$Sources", "fillLeast", "()V"⟩, 8), (⟨"FilmWhole$Sources", "canBe", "(II)Z"⟩, 8), (⟨"FilmWhole$Sources", "ownPrice", "(II)I"⟩, 8), (⟨"FilmWhole$Sources", "leastBehind", "(II)I"⟩, 8), (⟨"FilmWhole$Sources", "bestSource", "(II)I"⟩, 8), (⟨"FilmWhole$Sources", "joinPrice", "(III)I"⟩, 8)]
theorem lw_r1 : ∀ q ∈ lw_privs_1, lw_okq q := List.forall_mem_cons.mpr ⟨lw_p0, List.forall_mem_cons.mpr ⟨lw_p1, List.forall_mem_cons.mpr ⟨lw_p2, List.forall_mem_cons.mpr ⟨lw_p3, List.forall_mem_cons.mpr ⟨lw_p4, List.forall_mem_cons.mpr ⟨lw_p5, List.forall_mem_cons.mpr ⟨lw_p6, List.forall_mem_cons.mpr ⟨lw_p7, List.forall_mem_cons.mpr ⟨lw_p8, List.forall_mem_cons.mpr ⟨lw_p9, List.forall_mem_cons.mpr ⟨lw_p10, List.forall_mem_cons.mpr ⟨lw_p11, List.forall_mem_cons.mpr ⟨lw_p12, List.forall_mem_cons.mpr ⟨lw_p13, List.forall_mem_cons.mpr ⟨lw_p14, List.forall_mem_cons.mpr ⟨lw_p15, fun _ h => absurd h List.not_mem_nil⟩⟩⟩⟩⟩⟩⟩⟩⟩⟩⟩⟩⟩⟩⟩⟩
theorem lw_p16 : lw_okq (⟨"FilmWhole$Sources", "isJoined", "(III)Z"⟩, 8) := ⟨⟨by decide +kernel, by decide +kernel⟩, List.mem_of_getElem? (i := 161) (by decide +kernel), List.mem_of_getElem? (i := 407) (by decide +kernel), List.mem_of_getElem? (i := 408) (by decide +kernel)⟩
theorem lw_p17 : lw_okq (⟨"FilmWhole$Sources", "cameraOf", "(II)I"⟩, 8) := ⟨⟨by decide +kernel, by decide +kernel⟩, List.mem_of_getElem? (i := 161) (by decide +kernel), List.mem_of_getElem? (i := 411) (by decide +kernel), List.mem_of_getElem? (i := 412) (by decide +kernel)⟩
theorem lw_p18 : lw_okq (⟨"FilmWhole", "isCounted", "(II)Z"⟩, 9) := ⟨⟨by decide +kernel, by decide +kernel⟩, List.mem_of_getElem? (i := 15) (by decide +kernel), List.mem_of_getElem? (i := 419) (by decide +kernel), List.mem_of_getElem? (i := 420) (by decide +kernel)⟩
theorem lw_p19 : lw_okq (⟨"FilmWhole$Sources", "mends", "(II)Z"⟩, 8) := ⟨⟨by decide +kernel, by decide +kernel⟩, List.mem_of_getElem? (i := 161) (by decide +kernel), List.mem_of_getElem? (i := 439) (by decide +kernel), List.mem_of_getElem? (i := 440) (by decide +kernel)⟩
theorem lw_p20 : lw_okq (⟨"FilmWhole", "tintOfLeastWorn", "(I)I"⟩, 9) := ⟨⟨by decide +kernel, by decide +kernel⟩, List.mem_of_getElem? (i := 15) (by decide +kernel), List.mem_of_getElem? (i := 472) (by decide +kernel), List.mem_of_getElem? (i := 473) (by decide +kernel)⟩
theorem lw_p21 : lw_okq (⟨"FilmWhole$Cues", "weighSet", "(II)V"⟩, 5) := ⟨⟨by decide +kernel, by decide +kernel⟩, List.mem_of_getElem? (i := 87) (by decide +kernel), List.mem_of_getElem? (i := 503) (by decide +kernel), List.mem_of_getElem? (i := 504) (by decide +kernel)⟩
theorem lw_p22 : lw_okq (⟨"FilmWhole$Cues", "quarrelWith", "(III)I"⟩, 5) := ⟨⟨by decide +kernel, by decide +kernel⟩, List.mem_of_getElem? (i := 87) (by decide +kernel), List.mem_of_getElem? (i := 511) (by decide +kernel), List.mem_of_getElem? (i := 512) (by decide +kernel)⟩
theorem lw_p23 : lw_okq (⟨"FilmWhole$Cues", "lowestNext", "(II)I"⟩, 5) := ⟨⟨by decide +kernel, by decide +kernel⟩, List.mem_of_getElem? (i := 87) (by decide +kernel), List.mem_of_getElem? (i := 515) (by decide +kernel), List.mem_of_getElem? (i := 516) (by decide +kernel)⟩
theorem lw_p24 : lw_okq (⟨"FilmWholeModel", "isCopy", "(I)Z"⟩, 25) := ⟨⟨by decide +kernel, by decide +kernel⟩, List.mem_of_getElem? (i := 535) (by decide +kernel), List.mem_of_getElem? (i := 625) (by decide +kernel), List.mem_of_getElem? (i := 626) (by decide +kernel)⟩
theorem lw_p25 : lw_okq (⟨"FilmWholeModel", "lays", "(IIII)V"⟩, 25) := ⟨⟨by decide +kernel, by decide +kernel⟩, List.mem_of_getElem? (i := 535) (by decide +kernel), List.mem_of_getElem? (i := 632) (by decide +kernel), List.mem_of_getElem? (i := 633) (by decide +kernel)⟩
theorem lw_p26 : lw_okq (⟨"FilmWholeModel", "isFrame", "(II)Z"⟩, 25) := ⟨⟨by decide +kernel, by decide +kernel⟩, List.mem_of_getElem? (i := 535) (by decide +kernel), List.mem_of_getElem? (i := 645) (by decide +kernel), List.mem_of_getElem? (i := 646) (by decide +kernel)⟩
theorem lw_p27 : lw_okq (⟨"FilmWholeModel", "keeps", "(II)V"⟩, 25) := ⟨⟨by decide +kernel, by decide +kernel⟩, List.mem_of_getElem? (i := 535) (by decide +kernel), List.mem_of_getElem? (i := 653) (by decide +kernel), List.mem_of_getElem? (i := 654) (by decide +kernel)⟩
theorem lw_p28 : lw_okq (⟨"FilmWholeModel", "lines", "(II)V"⟩, 25) := ⟨⟨by decide +kernel, by decide +kernel⟩, List.mem_of_getElem? (i := 535) (by decide +kernel), List.mem_of_getElem? (i := 673) (by decide +kernel), List.mem_of_getElem? (i := 674) (by decide +kernel)⟩
theorem lw_p29 : lw_okq (⟨"FilmWholeModel", "pairCost", "(IIII)I"⟩, 25) := ⟨⟨by decide +kernel, by decide +kernel⟩, List.mem_of_getElem? (i := 535) (by decide +kernel), List.mem_of_getElem? (i := 677) (by decide +kernel), List.mem_of_getElem? (i := 678) (by decide +kernel)⟩
theorem lw_p30 : lw_okq (⟨"FilmWholeModel", "isPlace", "(I)Z"⟩, 25) := ⟨⟨by decide +kernel, by decide +kernel⟩, List.mem_of_getElem? (i := 535) (by decide +kernel), List.mem_of_getElem? (i := 685) (by decide +kernel), List.mem_of_getElem? (i := 686) (by decide +kernel)⟩
theorem lw_p31 : lw_okq (⟨"FilmWholeModel", "standAll", "()V"⟩, 25) := ⟨⟨by decide +kernel, by decide +kernel⟩, List.mem_of_getElem? (i := 535) (by decide +kernel), List.mem_of_getElem? (i := 689) (by decide +kernel), List.mem_of_getElem? (i := 690) (by decide +kernel)⟩
def lw_privs_2 : List (MethodName × Nat) := [(⟨"FilmWhole$Sources", "isJoined", "(III)Z"⟩, 8), (⟨"FilmWhole$Sources", "cameraOf", "(II)I"⟩, 8), (⟨"FilmWhole", "isCounted", "(II)Z"⟩, 9), (⟨"FilmWhole$Sources", "mends", "(II)Z"⟩, 8), (⟨"FilmWhole", "tintOfLeastWorn", "(I)I"⟩, 9), (⟨"FilmWhole$Cues", "weighSet", "(II)V"⟩, 5), (⟨"FilmWhole$Cues", "quarrelWith", "(III)I"⟩, 5), (⟨"FilmWhole$Cues", "lowestNext", "(II)I"⟩, 5), (⟨"FilmWholeModel", "isCopy", "(I)Z"⟩, 25), (⟨"FilmWholeModel", "lays", "(IIII)V"⟩, 25), (⟨"FilmWholeModel", "isFrame", "(II)Z"⟩, 25), (⟨"FilmWholeModel", "keeps", "(II)V"⟩, 25), (⟨"FilmWholeModel", "lines", "(II)V"⟩, 25), (⟨"FilmWholeModel", "pairCost", "(IIII)I"⟩, 25), (⟨"FilmWholeModel", "isPlace", "(I)Z"⟩, 25), (⟨"FilmWholeModel", "standAll", "()V"⟩, 25)]
theorem lw_r2 : ∀ q ∈ lw_privs_2, lw_okq q := List.forall_mem_cons.mpr ⟨lw_p16, List.forall_mem_cons.mpr ⟨lw_p17, List.forall_mem_cons.mpr ⟨lw_p18, List.forall_mem_cons.mpr ⟨lw_p19, List.forall_mem_cons.mpr ⟨lw_p20, List.forall_mem_cons.mpr ⟨lw_p21, List.forall_mem_cons.mpr ⟨lw_p22, List.forall_mem_cons.mpr ⟨lw_p23, List.forall_mem_cons.mpr ⟨lw_p24, List.forall_mem_cons.mpr ⟨lw_p25, List.forall_mem_cons.mpr ⟨lw_p26, List.forall_mem_cons.mpr ⟨lw_p27, List.forall_mem_cons.mpr ⟨lw_p28, List.forall_mem_cons.mpr ⟨lw_p29, List.forall_mem_cons.mpr ⟨lw_p30, List.forall_mem_cons.mpr ⟨lw_p31, fun _ h => absurd h List.not_mem_nil⟩⟩⟩⟩⟩⟩⟩⟩⟩⟩⟩⟩⟩⟩⟩⟩
theorem lw_p32 : lw_okq (⟨"FilmWholeModel", "wholes", "()I"⟩, 25) := ⟨⟨by decide +kernel, by decide +kernel⟩, List.mem_of_getElem? (i := 535) (by decide +kernel), List.mem_of_getElem? (i := 697) (by decide +kernel), List.mem_of_getElem? (i := 698) (by decide +kernel)⟩
theorem lw_p33 : lw_okq (⟨"FilmWholeModel", "may", "(II)Z"⟩, 25) := ⟨⟨by decide +kernel, by decide +kernel⟩, List.mem_of_getElem? (i := 535) (by decide +kernel), List.mem_of_getElem? (i := 701) (by decide +kernel), List.mem_of_getElem? (i := 702) (by decide +kernel)⟩
theorem lw_p34 : lw_okq (⟨"FilmWholeModel", "own", "(II)I"⟩, 25) := ⟨⟨by decide +kernel, by decide +kernel⟩, List.mem_of_getElem? (i := 535) (by decide +kernel), List.mem_of_getElem? (i := 705) (by decide +kernel), List.mem_of_getElem? (i := 706) (by decide +kernel)⟩
theorem lw_p35 : lw_okq (⟨"FilmWholeModel", "worn", "(II)I"⟩, 25) := ⟨⟨by decide +kernel, by decide +kernel⟩, List.mem_of_getElem? (i := 535) (by decide +kernel), List.mem_of_getElem? (i := 709) (by decide +kernel), List.mem_of_getElem? (i := 710) (by decide +kernel)⟩
theorem lw_p36 : lw_okq (⟨"FilmWholeModel", "rest", "(II)I"⟩, 25) := ⟨⟨by decide +kernel, by decide +kernel⟩, List.mem_of_getElem? (i := 535) (by decide +kernel), List.mem_of_getElem? (i := 713) (by decide +kernel), List.mem_of_getElem? (i := 714) (by decide +kernel)⟩
theorem lw_p37 : lw_okq (⟨"FilmWholeModel", "between", "(III)I"⟩, 25) := ⟨⟨by decide +kernel, by decide +kernel⟩, List.mem_of_getElem? (i := 535) (by decide +kernel), List.mem_of_getElem? (i := 718) (by decide +kernel), List.mem_of_getElem? (i := 719) (by decide +kernel)⟩
theorem lw_p38 : lw_okq (⟨"FilmWholeModel", "view", "(II)I"⟩, 25) := ⟨⟨by decide +kernel, by decide +kernel⟩, List.mem_of_getElem? (i := 535) (by decide +kernel), List.mem_of_getElem? (i := 722) (by decide +kernel), List.mem_of_getElem? (i := 723) (by decide +kernel)⟩
theorem lw_p39 : lw_okq (⟨"FilmWholeModel", "tintOf", "(II)I"⟩, 25) := ⟨⟨by decide +kernel, by decide +kernel⟩, List.mem_of_getElem? (i := 535) (by decide +kernel), List.mem_of_getElem? (i := 742) (by decide +kernel), List.mem_of_getElem? (i := 743) (by decide +kernel)⟩
theorem lw_p40 : lw_okq (⟨"FilmWholeModel", "ordered", "(II)I"⟩, 25) := ⟨⟨by decide +kernel, by decide +kernel⟩, List.mem_of_getElem? (i := 535) (by decide +kernel), List.mem_of_getElem? (i := 758) (by decide +kernel), List.mem_of_getElem? (i := 759) (by decide +kernel)⟩
theorem lw_p41 : lw_okq (⟨"FilmWholeModel", "quarrel", "(I)I"⟩, 25) := ⟨⟨by decide +kernel, by decide +kernel⟩, List.mem_of_getElem? (i := 535) (by decide +kernel), List.mem_of_getElem? (i := 762) (by decide +kernel), List.mem_of_getElem? (i := 763) (by decide +kernel)⟩
def lw_privs_3 : List (MethodName × Nat) := [(⟨"FilmWholeModel", "wholes", "()I"⟩, 25), (⟨"FilmWholeModel", "may", "(II)Z"⟩, 25), (⟨"FilmWholeModel", "own", "(II)I"⟩, 25), (⟨"FilmWholeModel", "worn", "(II)I"⟩, 25), (⟨"FilmWholeModel", "rest", "(II)I"⟩, 25), (⟨"FilmWholeModel", "between", "(III)I"⟩, 25), (⟨"FilmWholeModel", "view", "(II)I"⟩, 25), (⟨"FilmWholeModel", "tintOf", "(II)I"⟩, 25), (⟨"FilmWholeModel", "ordered", "(II)I"⟩, 25), (⟨"FilmWholeModel", "quarrel", "(I)I"⟩, 25)]
theorem lw_r3 : ∀ q ∈ lw_privs_3, lw_okq q := List.forall_mem_cons.mpr ⟨lw_p32, List.forall_mem_cons.mpr ⟨lw_p33, List.forall_mem_cons.mpr ⟨lw_p34, List.forall_mem_cons.mpr ⟨lw_p35, List.forall_mem_cons.mpr ⟨lw_p36, List.forall_mem_cons.mpr ⟨lw_p37, List.forall_mem_cons.mpr ⟨lw_p38, List.forall_mem_cons.mpr ⟨lw_p39, List.forall_mem_cons.mpr ⟨lw_p40, List.forall_mem_cons.mpr ⟨lw_p41, fun _ h => absurd h List.not_mem_nil⟩⟩⟩⟩⟩⟩⟩⟩⟩⟩
def lw_privs : List (MethodName × Nat) := lw_privs_1 ++ (lw_privs_2 ++ (lw_privs_3))
def lw_tbl : List Cond := k2_sels lw_privs ++ tables_1
theorem lw_privs_ok : ∀ q ∈ lw_privs, lw_okq q := by
  show ∀ q ∈ lw_privs_1 ++ (lw_privs_2 ++ (lw_privs_3)), lw_okq q
  exact List.forall_mem_append.mpr ⟨lw_r1, List.forall_mem_append.mpr ⟨lw_r2, lw_r3⟩⟩
end
section
def RX0 : String := "FilmWhole$Cues"
def TX0 : u_T := fun k => match k with
  | 0 => ("FilmWhole$Cues", "weights", "[[I", true)
  | 1 => ("FilmWhole$Cues", "least", "[I", true)
  | 2 => ("FilmWhole$Cues", "ways", "[I", true)
  | 3 => ("FilmWhole$Cues", "ordered", "[I", true)
  | _ => ("FilmWhole$Cues", "size", "I", false)
def tyX0 : Nat → FieldType := fun k => match k with
  | 0 => .array (.array .int)
  | 1 => .array .int
  | 2 => .array .int
  | 3 => .array .int
  | _ => .int
abbrev wsX00 : List Cond := u_ws RX0 TX0 5
theorem nmX0 : ∀ a, a < 5 → ∀ b, b < 5 → a ≠ b → (TX0 a).2.1 ≠ (TX0 b).2.1 := by decide +kernel
theorem tyX0_ok : ∀ k, k < 5 → parseFieldDescriptor (TX0 k).2.2.1 = some (tyX0 k) := by decide +kernel
abbrev cX0_init : ByteArray := prog_2_method_1_code
def yX0_init : MethodName := ⟨RX0, "<init>", "()V"⟩
abbrev cX0_append : ByteArray := prog_2_method_2_code
def yX0_append : MethodName := ⟨RX0, "append", "(III)V"⟩
abbrev cX0_clear : ByteArray := prog_2_method_3_code
def yX0_clear : MethodName := ⟨RX0, "clear", "()V"⟩
abbrev cX0_quarrel : ByteArray := prog_2_method_4_code
def yX0_quarrel : MethodName := ⟨RX0, "quarrel", "()I"⟩
abbrev cX0_rivals : ByteArray := prog_2_method_5_code
def yX0_rivals : MethodName := ⟨RX0, "rivals", "()I"⟩
abbrev cX0_findOrder : ByteArray := prog_2_method_6_code
def yX0_findOrder : MethodName := ⟨RX0, "findOrder", "(I)V"⟩
abbrev cX0_weighSet : ByteArray := prog_2_method_7_code
def yX0_weighSet : MethodName := ⟨RX0, "weighSet", "(II)V"⟩
abbrev cX0_lowestNext : ByteArray := prog_2_method_8_code
def yX0_lowestNext : MethodName := ⟨RX0, "lowestNext", "(II)I"⟩
abbrev cX0_quarrelWith : ByteArray := prog_2_method_9_code
def yX0_quarrelWith : MethodName := ⟨RX0, "quarrelWith", "(III)I"⟩
abbrev cX0_isIn : ByteArray := prog_2_method_10_code
def yX0_isIn : MethodName := ⟨RX0, "isIn", "(II)Z"⟩
def RX1 : String := "FilmWhole$Lining"
def TX1 : u_T := fun k => match k with
  | 0 => ("FilmWhole$Lining", "least", "[[I", true)
  | _ => ("FilmWhole$Lining", "partners", "[I", true)
def tyX1 : Nat → FieldType := fun k => match k with
  | 0 => .array (.array .int)
  | _ => .array .int
abbrev wsX10 : List Cond := u_ws RX1 TX1 2
theorem nmX1 : ∀ a, a < 2 → ∀ b, b < 2 → a ≠ b → (TX1 a).2.1 ≠ (TX1 b).2.1 := by decide +kernel
theorem tyX1_ok : ∀ k, k < 2 → parseFieldDescriptor (TX1 k).2.2.1 = some (tyX1 k) := by decide +kernel
abbrev cX1_init : ByteArray := prog_3_method_1_code
def yX1_init : MethodName := ⟨RX1, "<init>", "()V"⟩
abbrev cX1_cost : ByteArray := prog_3_method_2_code
def yX1_cost : MethodName := ⟨RX1, "cost", "()I"⟩
abbrev cX1_lineUp : ByteArray := prog_3_method_3_code
def yX1_lineUp : MethodName := ⟨RX1, "lineUp", "([II[II)V"⟩
abbrev cX1_fillLeast : ByteArray := prog_3_method_4_code
def yX1_fillLeast : MethodName := ⟨RX1, "fillLeast", "([II[II)V"⟩
abbrev cX1_canPair : ByteArray := prog_3_method_5_code
def yX1_canPair : MethodName := ⟨RX1, "canPair", "([II[II)Z"⟩
abbrev cX1_canLeaveSecond : ByteArray := prog_3_method_6_code
def yX1_canLeaveSecond : MethodName := ⟨RX1, "canLeaveSecond", "(II)Z"⟩
abbrev cX1_pairCost : ByteArray := prog_3_method_7_code
def yX1_pairCost : MethodName := ⟨RX1, "pairCost", "(II)I"⟩
def RX2 : String := "FilmWhole$Notes"
def TX2 : u_T := fun k => match k with
  | 0 => ("FilmWhole$Notes", "copies", "[I", true)
  | 1 => ("FilmWhole$Notes", "starts", "[I", true)
  | 2 => ("FilmWhole$Notes", "ends", "[I", true)
  | 3 => ("FilmWhole$Notes", "tints", "[I", true)
  | _ => ("FilmWhole$Notes", "size", "I", false)
def tyX2 : Nat → FieldType := fun k => match k with
  | 0 => .array .int
  | 1 => .array .int
  | 2 => .array .int
  | 3 => .array .int
  | _ => .int
abbrev wsX20 : List Cond := u_ws RX2 TX2 5
theorem nmX2 : ∀ a, a < 5 → ∀ b, b < 5 → a ≠ b → (TX2 a).2.1 ≠ (TX2 b).2.1 := by decide +kernel
theorem tyX2_ok : ∀ k, k < 5 → parseFieldDescriptor (TX2 k).2.2.1 = some (tyX2 k) := by decide +kernel
abbrev cX2_init : ByteArray := prog_4_method_1_code
def yX2_init : MethodName := ⟨RX2, "<init>", "()V"⟩
abbrev cX2_append : ByteArray := prog_4_method_2_code
def yX2_append : MethodName := ⟨RX2, "append", "(IIII)V"⟩
abbrev cX2_tintOf : ByteArray := prog_4_method_3_code
def yX2_tintOf : MethodName := ⟨RX2, "tintOf", "(II)I"⟩
def RX3 : String := "FilmWhole$Reel"
def TX3 : u_T := fun k => match k with
  | 0 => ("FilmWhole$Reel", "marks", "[I", true)
  | 1 => ("FilmWhole$Reel", "wears", "[I", true)
  | 2 => ("FilmWhole$Reel", "cameras", "[I", true)
  | _ => ("FilmWhole$Reel", "size", "I", false)
def tyX3 : Nat → FieldType := fun k => match k with
  | 0 => .array .int
  | 1 => .array .int
  | 2 => .array .int
  | _ => .int
abbrev wsX30 : List Cond := u_ws RX3 TX3 4
theorem nmX3 : ∀ a, a < 4 → ∀ b, b < 4 → a ≠ b → (TX3 a).2.1 ≠ (TX3 b).2.1 := by decide +kernel
theorem tyX3_ok : ∀ k, k < 4 → parseFieldDescriptor (TX3 k).2.2.1 = some (tyX3 k) := by decide +kernel
abbrev cX3_init : ByteArray := prog_5_method_1_code
def yX3_init : MethodName := ⟨RX3, "<init>", "()V"⟩
abbrev cX3_hasRoomFor : ByteArray := prog_5_method_2_code
def yX3_hasRoomFor : MethodName := ⟨RX3, "hasRoomFor", "(I)Z"⟩
abbrev cX3_append : ByteArray := prog_5_method_3_code
def yX3_append : MethodName := ⟨RX3, "append", "(III)V"⟩
def RX4 : String := "FilmWhole$Script"
def TX4 : u_T := fun k => match k with
  | 0 => ("FilmWhole$Script", "marks", "[I", true)
  | 1 => ("FilmWhole$Script", "shots", "[I", true)
  | _ => ("FilmWhole$Script", "size", "I", false)
def tyX4 : Nat → FieldType := fun k => match k with
  | 0 => .array .int
  | 1 => .array .int
  | _ => .int
abbrev wsX40 : List Cond := u_ws RX4 TX4 3
theorem nmX4 : ∀ a, a < 3 → ∀ b, b < 3 → a ≠ b → (TX4 a).2.1 ≠ (TX4 b).2.1 := by decide +kernel
theorem tyX4_ok : ∀ k, k < 3 → parseFieldDescriptor (TX4 k).2.2.1 = some (tyX4 k) := by decide +kernel
abbrev cX4_init : ByteArray := prog_6_method_1_code
def yX4_init : MethodName := ⟨RX4, "<init>", "()V"⟩
abbrev cX4_has : ByteArray := prog_6_method_2_code
def yX4_has : MethodName := ⟨RX4, "has", "(I)Z"⟩
abbrev cX4_append : ByteArray := prog_6_method_3_code
def yX4_append : MethodName := ⟨RX4, "append", "(II)V"⟩
def RX5 : String := "FilmWhole$Sources"
def TX5 : u_T := fun k => match k with
  | 0 => ("FilmWhole$Sources", "script", "LFilmWhole$Script;", true)
  | 1 => ("FilmWhole$Sources", "reels", "[LFilmWhole$Reel;", true)
  | 2 => ("FilmWhole$Sources", "rules", "[I", true)
  | 3 => ("FilmWhole$Sources", "lining", "LFilmWhole$Lining;", true)
  | 4 => ("FilmWhole$Sources", "standing", "[[I", true)
  | 5 => ("FilmWhole$Sources", "least", "[[I", true)
  | 6 => ("FilmWhole$Sources", "chosen", "[I", true)
  | _ => ("FilmWhole$Sources", "price", "I", false)
def tyX5 : Nat → FieldType := fun k => match k with
  | 0 => .object "FilmWhole$Script"
  | 1 => .array (.object "FilmWhole$Reel")
  | 2 => .array .int
  | 3 => .object "FilmWhole$Lining"
  | 4 => .array (.array .int)
  | 5 => .array (.array .int)
  | 6 => .array .int
  | _ => .int
abbrev wsX50 : List Cond := u_ws RX5 TX5 8
theorem nmX5 : ∀ a, a < 8 → ∀ b, b < 8 → a ≠ b → (TX5 a).2.1 ≠ (TX5 b).2.1 := by decide +kernel
theorem tyX5_ok : ∀ k, k < 8 → parseFieldDescriptor (TX5 k).2.2.1 = some (tyX5 k) := by decide +kernel
abbrev cX5_init : ByteArray := prog_7_method_1_code
def yX5_init : MethodName := ⟨RX5, "<init>", "(LFilmWhole$Script;[LFilmWhole$Reel;[ILFilmWhole$Lining;)V"⟩
abbrev cX5_findStanding : ByteArray := prog_7_method_2_code
def yX5_findStanding : MethodName := ⟨RX5, "findStanding", "(I)V"⟩
abbrev cX5_choose : ByteArray := prog_7_method_3_code
def yX5_choose : MethodName := ⟨RX5, "choose", "()V"⟩
abbrev cX5_fillLeast : ByteArray := prog_7_method_4_code
def yX5_fillLeast : MethodName := ⟨RX5, "fillLeast", "()V"⟩
abbrev cX5_leastBehind : ByteArray := prog_7_method_5_code
def yX5_leastBehind : MethodName := ⟨RX5, "leastBehind", "(II)I"⟩
abbrev cX5_bestSource : ByteArray := prog_7_method_6_code
def yX5_bestSource : MethodName := ⟨RX5, "bestSource", "(II)I"⟩
abbrev cX5_canBe : ByteArray := prog_7_method_7_code
def yX5_canBe : MethodName := ⟨RX5, "canBe", "(II)Z"⟩
abbrev cX5_ownPrice : ByteArray := prog_7_method_8_code
def yX5_ownPrice : MethodName := ⟨RX5, "ownPrice", "(II)I"⟩
abbrev cX5_joinPrice : ByteArray := prog_7_method_9_code
def yX5_joinPrice : MethodName := ⟨RX5, "joinPrice", "(III)I"⟩
abbrev cX5_isJoined : ByteArray := prog_7_method_10_code
def yX5_isJoined : MethodName := ⟨RX5, "isJoined", "(III)Z"⟩
abbrev cX5_cameraOf : ByteArray := prog_7_method_11_code
def yX5_cameraOf : MethodName := ⟨RX5, "cameraOf", "(II)I"⟩
abbrev cX5_changesCopy : ByteArray := prog_7_method_12_code
def yX5_changesCopy : MethodName := ⟨RX5, "changesCopy", "(I)Z"⟩
abbrev cX5_changesCamera : ByteArray := prog_7_method_13_code
def yX5_changesCamera : MethodName := ⟨RX5, "changesCamera", "(I)Z"⟩
abbrev cX5_canBeMended : ByteArray := prog_7_method_14_code
def yX5_canBeMended : MethodName := ⟨RX5, "canBeMended", "(I)Z"⟩
abbrev cX5_mends : ByteArray := prog_7_method_15_code
def yX5_mends : MethodName := ⟨RX5, "mends", "(II)Z"⟩
abbrev cX5_frameOf : ByteArray := prog_7_method_16_code
def yX5_frameOf : MethodName := ⟨RX5, "frameOf", "(I)I"⟩
abbrev cX5_wearOf : ByteArray := prog_7_method_17_code
def yX5_wearOf : MethodName := ⟨RX5, "wearOf", "(I)I"⟩
def RX6 : String := "FilmWhole$Steps"
def TX6 : u_T := fun k => match k with
  | 0 => ("FilmWhole$Steps", "copies", "[I", true)
  | 1 => ("FilmWhole$Steps", "frames", "[I", true)
  | 2 => ("FilmWhole$Steps", "wears", "[I", true)
  | _ => ("FilmWhole$Steps", "size", "I", false)
def tyX6 : Nat → FieldType := fun k => match k with
  | 0 => .array .int
  | 1 => .array .int
  | 2 => .array .int
  | _ => .int
abbrev wsX60 : List Cond := u_ws RX6 TX6 4
theorem nmX6 : ∀ a, a < 4 → ∀ b, b < 4 → a ≠ b → (TX6 a).2.1 ≠ (TX6 b).2.1 := by decide +kernel
theorem tyX6_ok : ∀ k, k < 4 → parseFieldDescriptor (TX6 k).2.2.1 = some (tyX6 k) := by decide +kernel
abbrev cX6_init : ByteArray := prog_8_method_1_code
def yX6_init : MethodName := ⟨RX6, "<init>", "()V"⟩
abbrev cX6_keep : ByteArray := prog_8_method_2_code
def yX6_keep : MethodName := ⟨RX6, "keep", "(III)V"⟩
abbrev cX6_dropOldest : ByteArray := prog_8_method_3_code
def yX6_dropOldest : MethodName := ⟨RX6, "dropOldest", "()V"⟩
def RX7 : String := "FilmWhole$Told"
def TX7 : u_T := fun k => match k with
  | _ => ("", "", "", false)
def tyX7 : Nat → FieldType := fun k => match k with
  | _ => .int
abbrev wsX70 : List Cond := u_ws RX7 TX7 0
theorem nmX7 : ∀ a, a < 0 → ∀ b, b < 0 → a ≠ b → (TX7 a).2.1 ≠ (TX7 b).2.1 := by decide +kernel
theorem tyX7_ok : ∀ k, k < 0 → parseFieldDescriptor (TX7 k).2.2.1 = some (tyX7 k) := by decide +kernel
abbrev cX7_isTold : ByteArray := prog_9_method_2_code
def yX7_isTold : MethodName := ⟨RX7, "isTold", "(IJ)Z"⟩
abbrev cX7_bitsOf : ByteArray := prog_9_method_3_code
def yX7_bitsOf : MethodName := ⟨RX7, "bitsOf", "(IJI)I"⟩
abbrev cX7_markIn : ByteArray := prog_9_method_4_code
def yX7_markIn : MethodName := ⟨RX7, "markIn", "(I)I"⟩
abbrev cX7_wearIn : ByteArray := prog_9_method_5_code
def yX7_wearIn : MethodName := ⟨RX7, "wearIn", "(I)I"⟩
abbrev cX7_cameraIn : ByteArray := prog_9_method_6_code
def yX7_cameraIn : MethodName := ⟨RX7, "cameraIn", "(I)I"⟩
def RX8 : String := "FilmWhole"
def TX8 : u_T := fun k => match k with
  | 0 => ("FilmWhole", "reels", "[LFilmWhole$Reel;", true)
  | 1 => ("FilmWhole", "copies", "I", false)
  | 2 => ("FilmWhole", "script", "LFilmWhole$Script;", true)
  | 3 => ("FilmWhole", "rules", "[I", true)
  | 4 => ("FilmWhole", "lining", "LFilmWhole$Lining;", true)
  | 5 => ("FilmWhole", "sources", "LFilmWhole$Sources;", true)
  | 6 => ("FilmWhole", "notes", "LFilmWhole$Notes;", true)
  | 7 => ("FilmWhole", "cues", "LFilmWhole$Cues;", true)
  | _ => ("FilmWhole", "steps", "LFilmWhole$Steps;", true)
def tyX8 : Nat → FieldType := fun k => match k with
  | 0 => .array (.object "FilmWhole$Reel")
  | 1 => .int
  | 2 => .object "FilmWhole$Script"
  | 3 => .array .int
  | 4 => .object "FilmWhole$Lining"
  | 5 => .object "FilmWhole$Sources"
  | 6 => .object "FilmWhole$Notes"
  | 7 => .object "FilmWhole$Cues"
  | _ => .object "FilmWhole$Steps"
abbrev wsX80 : List Cond := u_ws RX8 TX8 9
theorem nmX8 : ∀ a, a < 9 → ∀ b, b < 9 → a ≠ b → (TX8 a).2.1 ≠ (TX8 b).2.1 := by decide +kernel
theorem tyX8_ok : ∀ k, k < 9 → parseFieldDescriptor (TX8 k).2.2.1 = some (tyX8 k) := by decide +kernel
abbrev cX8_init : ByteArray := prog_1_method_1_code
def yX8_init : MethodName := ⟨RX8, "<init>", "()V"⟩
abbrev cX8_copy : ByteArray := prog_1_method_2_code
def yX8_copy : MethodName := ⟨RX8, "copy", "()I"⟩
abbrev cX8_frame : ByteArray := prog_1_method_3_code
def yX8_frame : MethodName := ⟨RX8, "frame", "(IIII)I"⟩
abbrev cX8_frames : ByteArray := prog_1_method_4_code
def yX8_frames : MethodName := ⟨RX8, "frames", "(IIJ)I"⟩
abbrev cX8_at : ByteArray := prog_1_method_5_code
def yX8_at : MethodName := ⟨RX8, "at", "(III)I"⟩
abbrev cX8_wear : ByteArray := prog_1_method_6_code
def yX8_wear : MethodName := ⟨RX8, "wear", "(III)I"⟩
abbrev cX8_place : ByteArray := prog_1_method_7_code
def yX8_place : MethodName := ⟨RX8, "place", "(II)I"⟩
abbrev cX8_noScript : ByteArray := prog_1_method_8_code
def yX8_noScript : MethodName := ⟨RX8, "noScript", "()I"⟩
abbrev cX8_rule : ByteArray := prog_1_method_9_code
def yX8_rule : MethodName := ⟨RX8, "rule", "(II)I"⟩
abbrev cX8_line : ByteArray := prog_1_method_10_code
def yX8_line : MethodName := ⟨RX8, "line", "(III)I"⟩
abbrev cX8_stands : ByteArray := prog_1_method_11_code
def yX8_stands : MethodName := ⟨RX8, "stands", "(II)I"⟩
abbrev cX8_whole : ByteArray := prog_1_method_12_code
def yX8_whole : MethodName := ⟨RX8, "whole", "(I)I"⟩
abbrev cX8_about : ByteArray := prog_1_method_13_code
def yX8_about : MethodName := ⟨RX8, "about", "(I)I"⟩
abbrev cX8_mend : ByteArray := prog_1_method_14_code
def yX8_mend : MethodName := ⟨RX8, "mend", "(I)I"⟩
abbrev cX8_note : ByteArray := prog_1_method_15_code
def yX8_note : MethodName := ⟨RX8, "note", "(IIII)I"⟩
abbrev cX8_tint : ByteArray := prog_1_method_16_code
def yX8_tint : MethodName := ⟨RX8, "tint", "(I)I"⟩
abbrev cX8_cue : ByteArray := prog_1_method_17_code
def yX8_cue : MethodName := ⟨RX8, "cue", "(III)I"⟩
abbrev cX8_noCues : ByteArray := prog_1_method_18_code
def yX8_noCues : MethodName := ⟨RX8, "noCues", "()I"⟩
abbrev cX8_order : ByteArray := prog_1_method_19_code
def yX8_order : MethodName := ⟨RX8, "order", "(II)I"⟩
abbrev cX8_undo : ByteArray := prog_1_method_20_code
def yX8_undo : MethodName := ⟨RX8, "undo", "()I"⟩
abbrev cX8_count : ByteArray := prog_1_method_21_code
def yX8_count : MethodName := ⟨RX8, "count", "(I)I"⟩
abbrev cX8_isWithin : ByteArray := prog_1_method_22_code
def yX8_isWithin : MethodName := ⟨RX8, "isWithin", "(II)Z"⟩
abbrev cX8_isCopy : ByteArray := prog_1_method_23_code
def yX8_isCopy : MethodName := ⟨RX8, "isCopy", "(I)Z"⟩
abbrev cX8_isFrame : ByteArray := prog_1_method_24_code
def yX8_isFrame : MethodName := ⟨RX8, "isFrame", "(II)Z"⟩
abbrev cX8_isRow : ByteArray := prog_1_method_25_code
def yX8_isRow : MethodName := ⟨RX8, "isRow", "(I)Z"⟩
abbrev cX8_sizeOfRow : ByteArray := prog_1_method_26_code
def yX8_sizeOfRow : MethodName := ⟨RX8, "sizeOfRow", "(I)I"⟩
abbrev cX8_marksOfRow : ByteArray := prog_1_method_27_code
def yX8_marksOfRow : MethodName := ⟨RX8, "marksOfRow", "(I)[I"⟩
abbrev cX8_changeWear : ByteArray := prog_1_method_28_code
def yX8_changeWear : MethodName := ⟨RX8, "changeWear", "(III)V"⟩
abbrev cX8_isCounted : ByteArray := prog_1_method_29_code
def yX8_isCounted : MethodName := ⟨RX8, "isCounted", "(II)Z"⟩
abbrev cX8_tintOfLeastWorn : ByteArray := prog_1_method_30_code
def yX8_tintOfLeastWorn : MethodName := ⟨RX8, "tintOfLeastWorn", "(I)I"⟩
def RX9 : String := "FilmWholeModel"
def TX9 : u_T := fun k => match k with
  | 0 => ("FilmWholeModel", "copies", "I", false)
  | 1 => ("FilmWholeModel", "many", "[I", true)
  | 2 => ("FilmWholeModel", "mark", "[I", true)
  | 3 => ("FilmWholeModel", "wear", "[I", true)
  | 4 => ("FilmWholeModel", "camera", "[I", true)
  | 5 => ("FilmWholeModel", "shot", "[I", true)
  | 6 => ("FilmWholeModel", "rules", "[I", true)
  | 7 => ("FilmWholeModel", "notes", "I", false)
  | 8 => ("FilmWholeModel", "noteCopy", "[I", true)
  | 9 => ("FilmWholeModel", "noteA", "[I", true)
  | 10 => ("FilmWholeModel", "noteB", "[I", true)
  | 11 => ("FilmWholeModel", "noteTint", "[I", true)
  | 12 => ("FilmWholeModel", "cues", "I", false)
  | 13 => ("FilmWholeModel", "cueA", "[I", true)
  | 14 => ("FilmWholeModel", "cueB", "[I", true)
  | 15 => ("FilmWholeModel", "cueWeight", "[I", true)
  | 16 => ("FilmWholeModel", "steps", "I", false)
  | 17 => ("FilmWholeModel", "stepAt", "[I", true)
  | 18 => ("FilmWholeModel", "stepWas", "[I", true)
  | 19 => ("FilmWholeModel", "cost", "[I", true)
  | 20 => ("FilmWholeModel", "pair", "[I", true)
  | 21 => ("FilmWholeModel", "stand", "[I", true)
  | 22 => ("FilmWholeModel", "price", "[I", true)
  | 23 => ("FilmWholeModel", "source", "[I", true)
  | _ => ("FilmWholeModel", "spot", "[I", true)
def tyX9 : Nat → FieldType := fun k => match k with
  | 0 => .int
  | 1 => .array .int
  | 2 => .array .int
  | 3 => .array .int
  | 4 => .array .int
  | 5 => .array .int
  | 6 => .array .int
  | 7 => .int
  | 8 => .array .int
  | 9 => .array .int
  | 10 => .array .int
  | 11 => .array .int
  | 12 => .int
  | 13 => .array .int
  | 14 => .array .int
  | 15 => .array .int
  | 16 => .int
  | 17 => .array .int
  | 18 => .array .int
  | 19 => .array .int
  | 20 => .array .int
  | 21 => .array .int
  | 22 => .array .int
  | 23 => .array .int
  | _ => .array .int
abbrev wsX90 : List Cond := u_ws RX9 TX9 25
theorem nmX9 : ∀ a, a < 25 → ∀ b, b < 25 → a ≠ b → (TX9 a).2.1 ≠ (TX9 b).2.1 := by decide +kernel
theorem tyX9_ok : ∀ k, k < 25 → parseFieldDescriptor (TX9 k).2.2.1 = some (tyX9 k) := by decide +kernel
abbrev cX9_init : ByteArray := prog_11_method_1_code
def yX9_init : MethodName := ⟨RX9, "<init>", "()V"⟩
abbrev cX9_in : ByteArray := prog_11_method_2_code
def yX9_in : MethodName := ⟨RX9, "in", "(III)Z"⟩
abbrev cX9_isCopy : ByteArray := prog_11_method_3_code
def yX9_isCopy : MethodName := ⟨RX9, "isCopy", "(I)Z"⟩
abbrev cX9_copy : ByteArray := prog_11_method_4_code
def yX9_copy : MethodName := ⟨RX9, "copy", "()I"⟩
abbrev cX9_lays : ByteArray := prog_11_method_5_code
def yX9_lays : MethodName := ⟨RX9, "lays", "(IIII)V"⟩
abbrev cX9_frame : ByteArray := prog_11_method_6_code
def yX9_frame : MethodName := ⟨RX9, "frame", "(IIII)I"⟩
abbrev cX9_frames : ByteArray := prog_11_method_7_code
def yX9_frames : MethodName := ⟨RX9, "frames", "(IIJ)I"⟩
abbrev cX9_isFrame : ByteArray := prog_11_method_8_code
def yX9_isFrame : MethodName := ⟨RX9, "isFrame", "(II)Z"⟩
abbrev cX9_at : ByteArray := prog_11_method_9_code
def yX9_at : MethodName := ⟨RX9, "at", "(III)I"⟩
abbrev cX9_keeps : ByteArray := prog_11_method_10_code
def yX9_keeps : MethodName := ⟨RX9, "keeps", "(II)V"⟩
abbrev cX9_wear : ByteArray := prog_11_method_11_code
def yX9_wear : MethodName := ⟨RX9, "wear", "(III)I"⟩
abbrev cX9_place : ByteArray := prog_11_method_12_code
def yX9_place : MethodName := ⟨RX9, "place", "(II)I"⟩
abbrev cX9_noScript : ByteArray := prog_11_method_13_code
def yX9_noScript : MethodName := ⟨RX9, "noScript", "()I"⟩
abbrev cX9_rule : ByteArray := prog_11_method_14_code
def yX9_rule : MethodName := ⟨RX9, "rule", "(II)I"⟩
abbrev cX9_pairCost : ByteArray := prog_11_method_15_code
def yX9_pairCost : MethodName := ⟨RX9, "pairCost", "(IIII)I"⟩
abbrev cX9_lines : ByteArray := prog_11_method_16_code
def yX9_lines : MethodName := ⟨RX9, "lines", "(II)V"⟩
abbrev cX9_line : ByteArray := prog_11_method_17_code
def yX9_line : MethodName := ⟨RX9, "line", "(III)I"⟩
abbrev cX9_standAll : ByteArray := prog_11_method_18_code
def yX9_standAll : MethodName := ⟨RX9, "standAll", "()V"⟩
abbrev cX9_isPlace : ByteArray := prog_11_method_19_code
def yX9_isPlace : MethodName := ⟨RX9, "isPlace", "(I)Z"⟩
abbrev cX9_stands : ByteArray := prog_11_method_20_code
def yX9_stands : MethodName := ⟨RX9, "stands", "(II)I"⟩
abbrev cX9_may : ByteArray := prog_11_method_21_code
def yX9_may : MethodName := ⟨RX9, "may", "(II)Z"⟩
abbrev cX9_worn : ByteArray := prog_11_method_22_code
def yX9_worn : MethodName := ⟨RX9, "worn", "(II)I"⟩
abbrev cX9_view : ByteArray := prog_11_method_23_code
def yX9_view : MethodName := ⟨RX9, "view", "(II)I"⟩
abbrev cX9_between : ByteArray := prog_11_method_24_code
def yX9_between : MethodName := ⟨RX9, "between", "(III)I"⟩
abbrev cX9_own : ByteArray := prog_11_method_25_code
def yX9_own : MethodName := ⟨RX9, "own", "(II)I"⟩
abbrev cX9_rest : ByteArray := prog_11_method_26_code
def yX9_rest : MethodName := ⟨RX9, "rest", "(II)I"⟩
abbrev cX9_wholes : ByteArray := prog_11_method_27_code
def yX9_wholes : MethodName := ⟨RX9, "wholes", "()I"⟩
abbrev cX9_whole : ByteArray := prog_11_method_28_code
def yX9_whole : MethodName := ⟨RX9, "whole", "(I)I"⟩
abbrev cX9_about : ByteArray := prog_11_method_29_code
def yX9_about : MethodName := ⟨RX9, "about", "(I)I"⟩
abbrev cX9_mend : ByteArray := prog_11_method_30_code
def yX9_mend : MethodName := ⟨RX9, "mend", "(I)I"⟩
abbrev cX9_note : ByteArray := prog_11_method_31_code
def yX9_note : MethodName := ⟨RX9, "note", "(IIII)I"⟩
abbrev cX9_tintOf : ByteArray := prog_11_method_32_code
def yX9_tintOf : MethodName := ⟨RX9, "tintOf", "(II)I"⟩
abbrev cX9_tint : ByteArray := prog_11_method_33_code
def yX9_tint : MethodName := ⟨RX9, "tint", "(I)I"⟩
abbrev cX9_cue : ByteArray := prog_11_method_34_code
def yX9_cue : MethodName := ⟨RX9, "cue", "(III)I"⟩
abbrev cX9_noCues : ByteArray := prog_11_method_35_code
def yX9_noCues : MethodName := ⟨RX9, "noCues", "()I"⟩
abbrev cX9_ordered : ByteArray := prog_11_method_36_code
def yX9_ordered : MethodName := ⟨RX9, "ordered", "(II)I"⟩
abbrev cX9_quarrel : ByteArray := prog_11_method_37_code
def yX9_quarrel : MethodName := ⟨RX9, "quarrel", "(I)I"⟩
abbrev cX9_order : ByteArray := prog_11_method_38_code
def yX9_order : MethodName := ⟨RX9, "order", "(II)I"⟩
abbrev cX9_undo : ByteArray := prog_11_method_39_code
def yX9_undo : MethodName := ⟨RX9, "undo", "()I"⟩
abbrev cX9_count : ByteArray := prog_11_method_40_code
def yX9_count : MethodName := ⟨RX9, "count", "(I)I"⟩
def RJ9 : String := "java/lang/Math"
def TJ9 : u_T := fun k => match k with
  | _ => ("", "", "", false)
def tyJ9 : Nat → FieldType := fun k => match k with
  | _ => .int
abbrev wsJ90 : List Cond := u_ws RJ9 TJ9 0
theorem nmJ9 : ∀ a, a < 0 → ∀ b, b < 0 → a ≠ b → (TJ9 a).2.1 ≠ (TJ9 b).2.1 := by decide +kernel
theorem tyJ9_ok : ∀ k, k < 0 → parseFieldDescriptor (TJ9 k).2.2.1 = some (tyJ9 k) := by decide +kernel
abbrev cJ9_abs_0f7a4 : ByteArray := prog_12_method_59_code
def yJ9_abs_0f7a4 : MethodName := ⟨RJ9, "abs", "(I)I"⟩
abbrev cJ9_max_7cf53 : ByteArray := prog_12_method_65_code
def yJ9_max_7cf53 : MethodName := ⟨RJ9, "max", "(II)I"⟩
abbrev cJ9_min_7cf53 : ByteArray := prog_12_method_69_code
def yJ9_min_7cf53 : MethodName := ⟨RJ9, "min", "(II)I"⟩
def RJ10 : String := "java/lang/System"
def TJ10 : u_T := fun k => match k with
  | _ => ("", "", "", false)
def tyJ10 : Nat → FieldType := fun k => match k with
  | _ => .int
abbrev wsJ100 : List Cond := u_ws RJ10 TJ10 0
theorem nmJ10 : ∀ a, a < 0 → ∀ b, b < 0 → a ≠ b → (TJ10 a).2.1 ≠ (TJ10 b).2.1 := by decide +kernel
theorem tyJ10_ok : ∀ k, k < 0 → parseFieldDescriptor (TJ10 k).2.2.1 = some (tyJ10 k) := by decide +kernel
def RJ7 : String := "java/util/Arrays"
def TJ7 : u_T := fun k => match k with
  | _ => ("", "", "", false)
def tyJ7 : Nat → FieldType := fun k => match k with
  | _ => .int
abbrev wsJ70 : List Cond := u_ws RJ7 TJ7 0
theorem nmJ7 : ∀ a, a < 0 → ∀ b, b < 0 → a ≠ b → (TJ7 a).2.1 ≠ (TJ7 b).2.1 := by decide +kernel
theorem tyJ7_ok : ∀ k, k < 0 → parseFieldDescriptor (TJ7 k).2.2.1 = some (tyJ7 k) := by decide +kernel
abbrev cJ7_fill_53178 : ByteArray := prog_14_method_103_code
def yJ7_fill_53178 : MethodName := ⟨RJ7, "fill", "([II)V"⟩
def RL : String := "FilmWholeLaw"
abbrev cL_law : ByteArray := code
def yL_law : MethodName := ⟨RL, "law", "([I)Z"⟩
abbrev vwCl : List vw_C := [(RX0, TX0, 5), (RX1, TX1, 2), (RX2, TX2, 5), (RX3, TX3, 4), (RX4, TX4, 3), (RX5, TX5, 8), (RX6, TX6, 4), (RX8, TX8, 9), (RX9, TX9, 25)]
end
section
/-! words: every good word of the tables; by its place -/
def fm_T : List Cond := lw_tbl.filter goodWord
theorem fm_mem {w : Cond} (i : Nat) (h : lw_tbl[i]? = some w) (hg : goodWord w = true) : w ∈ fm_T := List.mem_filter.mpr ⟨List.mem_of_getElem? h, hg⟩
theorem fm_good : GoodIn fm_T fm_T := fun w hw => ⟨hw, good_of_word (List.mem_filter.mp hw).2⟩
/-- a field of class number ci by pool index: number j -/
def fm_Fd (own : String) (ci j idx : Nat) : Prop := ∃ (C : String) (T : u_T) (N : Nat) (ty : Nat → FieldType), vwCl[ci]? = some (C, T, N) ∧ j < N ∧ (∀ w ∈ u_ws C T N, w ∈ fm_T) ∧ Cond.fieldLink own idx (T j).1 (T j).2.1 (T j).2.2.1 ∈ fm_T ∧ (∀ k, k < N → parseFieldDescriptor (T k).2.2.1 = some (ty k)) ∧ ∀ a, a < N → ∀ b, b < N → a ≠ b → (T a).2.1 ≠ (T b).2.1
def fm_Wr (ci j : Nat) : Prop := ∃ (C : String) (T : u_T) (N : Nat), vwCl[ci]? = some (C, T, N) ∧ (T j).2.2.2 = false ∧ parseFieldDescriptor (T j).2.2.1 = some .int
def fm_CV (own : String) (idx ci : Nat) (y : MethodName) (cc : ByteArray) (n : Nat) (ret : Option FieldType) (np : Nat) : Prop := (Cond.methodLink own idx y ∈ fm_T ∧ Cond.instanceMethod y ∈ fm_T ∧ Cond.selects y.cls y y ∈ fm_T ∧ Cond.initialized y.cls ∈ fm_T ∧ Cond.code y cc n ret ∈ fm_T) ∧ (∃ (T : u_T) (N : Nat), vwCl[ci]? = some (y.cls, T, N)) ∧ y.cls ≠ "java/lang/invoke/MethodHandle" ∧ y.cls ≠ "java/lang/invoke/VarHandle" ∧ (parseMethodDescriptor y.desc).map (fun d => d.parameters.length) = some np
def fm_CS (own : String) (idx : Nat) (y : MethodName) (cc : ByteArray) (n : Nat) (ret : Option FieldType) (np : Nat) : Prop := (Cond.methodLink own idx y ∈ fm_T ∧ Cond.static y ∈ fm_T ∧ Cond.initialized y.cls ∈ fm_T ∧ Cond.code y cc n ret ∈ fm_T) ∧ y.cls ≠ "java/lang/invoke/MethodHandle" ∧ y.cls ≠ "java/lang/invoke/VarHandle" ∧ (parseMethodDescriptor y.desc).map (fun d => d.parameters.length) = some np
set_option maxRecDepth 100000 in
theorem us_X0 : ∀ w ∈ u_ws RX0 TX0 5, w ∈ fm_T := by decide +kernel
set_option maxRecDepth 100000 in
theorem us_X1 : ∀ w ∈ u_ws RX1 TX1 2, w ∈ fm_T := by decide +kernel
set_option maxRecDepth 100000 in
theorem us_X2 : ∀ w ∈ u_ws RX2 TX2 5, w ∈ fm_T := by decide +kernel
set_option maxRecDepth 100000 in
theorem us_X3 : ∀ w ∈ u_ws RX3 TX3 4, w ∈ fm_T := by decide +kernel
set_option maxRecDepth 100000 in
theorem us_X4 : ∀ w ∈ u_ws RX4 TX4 3, w ∈ fm_T := by decide +kernel
set_option maxRecDepth 100000 in
theorem us_X5 : ∀ w ∈ u_ws RX5 TX5 8, w ∈ fm_T := by decide +kernel
set_option maxRecDepth 100000 in
theorem us_X6 : ∀ w ∈ u_ws RX6 TX6 4, w ∈ fm_T := by decide +kernel
set_option maxRecDepth 100000 in
theorem us_X8 : ∀ w ∈ u_ws RX8 TX8 9, w ∈ fm_T := by decide +kernel
set_option maxRecDepth 100000 in
theorem us_X9 : ∀ w ∈ u_ws RX9 TX9 25, w ∈ fm_T := by decide +kernel
theorem fd_X4_9 : fm_Fd RX4 4 0 9 := ⟨RX4, TX4, 3, tyX4, rfl, by decide, us_X4, fm_mem 72 (by decide +kernel) rfl, tyX4_ok, nmX4⟩
theorem fd_X5_38 : fm_Fd RX5 4 0 38 := ⟨RX4, TX4, 3, tyX4, rfl, by decide, us_X4, fm_mem 73 (by decide +kernel) rfl, tyX4_ok, nmX4⟩
theorem fd_X8_221 : fm_Fd RX8 4 0 221 := ⟨RX4, TX4, 3, tyX4, rfl, by decide, us_X4, fm_mem 74 (by decide +kernel) rfl, tyX4_ok, nmX4⟩
theorem fd_X4_15 : fm_Fd RX4 4 1 15 := ⟨RX4, TX4, 3, tyX4, rfl, by decide, us_X4, fm_mem 75 (by decide +kernel) rfl, tyX4_ok, nmX4⟩
theorem fd_X5_105 : fm_Fd RX5 4 1 105 := ⟨RX4, TX4, 3, tyX4, rfl, by decide, us_X4, fm_mem 76 (by decide +kernel) rfl, tyX4_ok, nmX4⟩
theorem fd_X4_18 : fm_Fd RX4 4 2 18 := ⟨RX4, TX4, 3, tyX4, rfl, by decide, us_X4, fm_mem 77 (by decide +kernel) rfl, tyX4_ok, nmX4⟩
theorem fd_X5_43 : fm_Fd RX5 4 2 43 := ⟨RX4, TX4, 3, tyX4, rfl, by decide, us_X4, fm_mem 78 (by decide +kernel) rfl, tyX4_ok, nmX4⟩
theorem fd_X8_121 : fm_Fd RX8 4 2 121 := ⟨RX4, TX4, 3, tyX4, rfl, by decide, us_X4, fm_mem 79 (by decide +kernel) rfl, tyX4_ok, nmX4⟩
theorem fd_X1_11 : fm_Fd RX1 1 0 11 := ⟨RX1, TX1, 2, tyX1, rfl, by decide, us_X1, fm_mem 96 (by decide +kernel) rfl, tyX1_ok, nmX1⟩
theorem fd_X1_16 : fm_Fd RX1 1 1 16 := ⟨RX1, TX1, 2, tyX1, rfl, by decide, us_X1, fm_mem 97 (by decide +kernel) rfl, tyX1_ok, nmX1⟩
theorem fd_X5_57 : fm_Fd RX5 1 1 57 := ⟨RX1, TX1, 2, tyX1, rfl, by decide, us_X1, fm_mem 98 (by decide +kernel) rfl, tyX1_ok, nmX1⟩
theorem fd_X8_146 : fm_Fd RX8 1 1 146 := ⟨RX1, TX1, 2, tyX1, rfl, by decide, us_X1, fm_mem 99 (by decide +kernel) rfl, tyX1_ok, nmX1⟩
theorem fd_X2_9 : fm_Fd RX2 2 0 9 := ⟨RX2, TX2, 5, tyX2, rfl, by decide, us_X2, fm_mem 111 (by decide +kernel) rfl, tyX2_ok, nmX2⟩
theorem fd_X2_15 : fm_Fd RX2 2 1 15 := ⟨RX2, TX2, 5, tyX2, rfl, by decide, us_X2, fm_mem 112 (by decide +kernel) rfl, tyX2_ok, nmX2⟩
theorem fd_X2_18 : fm_Fd RX2 2 2 18 := ⟨RX2, TX2, 5, tyX2, rfl, by decide, us_X2, fm_mem 113 (by decide +kernel) rfl, tyX2_ok, nmX2⟩
theorem fd_X2_21 : fm_Fd RX2 2 3 21 := ⟨RX2, TX2, 5, tyX2, rfl, by decide, us_X2, fm_mem 114 (by decide +kernel) rfl, tyX2_ok, nmX2⟩
theorem fd_X2_24 : fm_Fd RX2 2 4 24 := ⟨RX2, TX2, 5, tyX2, rfl, by decide, us_X2, fm_mem 115 (by decide +kernel) rfl, tyX2_ok, nmX2⟩
theorem fd_X8_187 : fm_Fd RX8 2 4 187 := ⟨RX2, TX2, 5, tyX2, rfl, by decide, us_X2, fm_mem 116 (by decide +kernel) rfl, tyX2_ok, nmX2⟩
theorem fd_X0_11 : fm_Fd RX0 0 0 11 := ⟨RX0, TX0, 5, tyX0, rfl, by decide, us_X0, fm_mem 135 (by decide +kernel) rfl, tyX0_ok, nmX0⟩
theorem fd_X0_16 : fm_Fd RX0 0 1 16 := ⟨RX0, TX0, 5, tyX0, rfl, by decide, us_X0, fm_mem 136 (by decide +kernel) rfl, tyX0_ok, nmX0⟩
theorem fd_X0_20 : fm_Fd RX0 0 2 20 := ⟨RX0, TX0, 5, tyX0, rfl, by decide, us_X0, fm_mem 137 (by decide +kernel) rfl, tyX0_ok, nmX0⟩
theorem fd_X0_23 : fm_Fd RX0 0 3 23 := ⟨RX0, TX0, 5, tyX0, rfl, by decide, us_X0, fm_mem 138 (by decide +kernel) rfl, tyX0_ok, nmX0⟩
theorem fd_X8_211 : fm_Fd RX8 0 3 211 := ⟨RX0, TX0, 5, tyX0, rfl, by decide, us_X0, fm_mem 139 (by decide +kernel) rfl, tyX0_ok, nmX0⟩
theorem fd_X0_26 : fm_Fd RX0 0 4 26 := ⟨RX0, TX0, 5, tyX0, rfl, by decide, us_X0, fm_mem 140 (by decide +kernel) rfl, tyX0_ok, nmX0⟩
theorem fd_X8_197 : fm_Fd RX8 0 4 197 := ⟨RX0, TX0, 5, tyX0, rfl, by decide, us_X0, fm_mem 141 (by decide +kernel) rfl, tyX0_ok, nmX0⟩
theorem fd_X6_9 : fm_Fd RX6 6 0 9 := ⟨RX6, TX6, 4, tyX6, rfl, by decide, us_X6, fm_mem 159 (by decide +kernel) rfl, tyX6_ok, nmX6⟩
theorem fd_X8_215 : fm_Fd RX8 6 0 215 := ⟨RX6, TX6, 4, tyX6, rfl, by decide, us_X6, fm_mem 160 (by decide +kernel) rfl, tyX6_ok, nmX6⟩
theorem fd_X6_15 : fm_Fd RX6 6 1 15 := ⟨RX6, TX6, 4, tyX6, rfl, by decide, us_X6, fm_mem 161 (by decide +kernel) rfl, tyX6_ok, nmX6⟩
theorem fd_X8_217 : fm_Fd RX8 6 1 217 := ⟨RX6, TX6, 4, tyX6, rfl, by decide, us_X6, fm_mem 162 (by decide +kernel) rfl, tyX6_ok, nmX6⟩
theorem fd_X6_18 : fm_Fd RX6 6 2 18 := ⟨RX6, TX6, 4, tyX6, rfl, by decide, us_X6, fm_mem 163 (by decide +kernel) rfl, tyX6_ok, nmX6⟩
theorem fd_X8_220 : fm_Fd RX8 6 2 220 := ⟨RX6, TX6, 4, tyX6, rfl, by decide, us_X6, fm_mem 164 (by decide +kernel) rfl, tyX6_ok, nmX6⟩
theorem fd_X6_21 : fm_Fd RX6 6 3 21 := ⟨RX6, TX6, 4, tyX6, rfl, by decide, us_X6, fm_mem 165 (by decide +kernel) rfl, tyX6_ok, nmX6⟩
theorem fd_X8_214 : fm_Fd RX8 6 3 214 := ⟨RX6, TX6, 4, tyX6, rfl, by decide, us_X6, fm_mem 166 (by decide +kernel) rfl, tyX6_ok, nmX6⟩
theorem fd_X3_9 : fm_Fd RX3 3 0 9 := ⟨RX3, TX3, 4, tyX3, rfl, by decide, us_X3, fm_mem 181 (by decide +kernel) rfl, tyX3_ok, nmX3⟩
theorem fd_X5_47 : fm_Fd RX5 3 0 47 := ⟨RX3, TX3, 4, tyX3, rfl, by decide, us_X3, fm_mem 182 (by decide +kernel) rfl, tyX3_ok, nmX3⟩
theorem fd_X8_109 : fm_Fd RX8 3 0 109 := ⟨RX3, TX3, 4, tyX3, rfl, by decide, us_X3, fm_mem 183 (by decide +kernel) rfl, tyX3_ok, nmX3⟩
theorem fd_X3_15 : fm_Fd RX3 3 1 15 := ⟨RX3, TX3, 4, tyX3, rfl, by decide, us_X3, fm_mem 184 (by decide +kernel) rfl, tyX3_ok, nmX3⟩
theorem fd_X8_112 : fm_Fd RX8 3 1 112 := ⟨RX3, TX3, 4, tyX3, rfl, by decide, us_X3, fm_mem 185 (by decide +kernel) rfl, tyX3_ok, nmX3⟩
theorem fd_X5_95 : fm_Fd RX5 3 1 95 := ⟨RX3, TX3, 4, tyX3, rfl, by decide, us_X3, fm_mem 186 (by decide +kernel) rfl, tyX3_ok, nmX3⟩
theorem fd_X3_18 : fm_Fd RX3 3 2 18 := ⟨RX3, TX3, 4, tyX3, rfl, by decide, us_X3, fm_mem 187 (by decide +kernel) rfl, tyX3_ok, nmX3⟩
theorem fd_X8_115 : fm_Fd RX8 3 2 115 := ⟨RX3, TX3, 4, tyX3, rfl, by decide, us_X3, fm_mem 188 (by decide +kernel) rfl, tyX3_ok, nmX3⟩
theorem fd_X5_108 : fm_Fd RX5 3 2 108 := ⟨RX3, TX3, 4, tyX3, rfl, by decide, us_X3, fm_mem 189 (by decide +kernel) rfl, tyX3_ok, nmX3⟩
theorem fd_X3_21 : fm_Fd RX3 3 3 21 := ⟨RX3, TX3, 4, tyX3, rfl, by decide, us_X3, fm_mem 190 (by decide +kernel) rfl, tyX3_ok, nmX3⟩
theorem fd_X5_50 : fm_Fd RX5 3 3 50 := ⟨RX3, TX3, 4, tyX3, rfl, by decide, us_X3, fm_mem 191 (by decide +kernel) rfl, tyX3_ok, nmX3⟩
theorem fd_X8_83 : fm_Fd RX8 3 3 83 := ⟨RX3, TX3, 4, tyX3, rfl, by decide, us_X3, fm_mem 192 (by decide +kernel) rfl, tyX3_ok, nmX3⟩
theorem fd_X5_23 : fm_Fd RX5 5 0 23 := ⟨RX5, TX5, 8, tyX5, rfl, by decide, us_X5, fm_mem 209 (by decide +kernel) rfl, tyX5_ok, nmX5⟩
theorem fd_X5_27 : fm_Fd RX5 5 1 27 := ⟨RX5, TX5, 8, tyX5, rfl, by decide, us_X5, fm_mem 210 (by decide +kernel) rfl, tyX5_ok, nmX5⟩
theorem fd_X5_31 : fm_Fd RX5 5 2 31 := ⟨RX5, TX5, 8, tyX5, rfl, by decide, us_X5, fm_mem 211 (by decide +kernel) rfl, tyX5_ok, nmX5⟩
theorem fd_X5_34 : fm_Fd RX5 5 3 34 := ⟨RX5, TX5, 8, tyX5, rfl, by decide, us_X5, fm_mem 212 (by decide +kernel) rfl, tyX5_ok, nmX5⟩
theorem fd_X5_11 : fm_Fd RX5 5 4 11 := ⟨RX5, TX5, 8, tyX5, rfl, by decide, us_X5, fm_mem 213 (by decide +kernel) rfl, tyX5_ok, nmX5⟩
theorem fd_X8_156 : fm_Fd RX8 5 4 156 := ⟨RX5, TX5, 8, tyX5, rfl, by decide, us_X5, fm_mem 214 (by decide +kernel) rfl, tyX5_ok, nmX5⟩
theorem fd_X5_16 : fm_Fd RX5 5 5 16 := ⟨RX5, TX5, 8, tyX5, rfl, by decide, us_X5, fm_mem 215 (by decide +kernel) rfl, tyX5_ok, nmX5⟩
theorem fd_X5_19 : fm_Fd RX5 5 6 19 := ⟨RX5, TX5, 8, tyX5, rfl, by decide, us_X5, fm_mem 216 (by decide +kernel) rfl, tyX5_ok, nmX5⟩
theorem fd_X8_166 : fm_Fd RX8 5 6 166 := ⟨RX5, TX5, 8, tyX5, rfl, by decide, us_X5, fm_mem 217 (by decide +kernel) rfl, tyX5_ok, nmX5⟩
theorem fd_X5_73 : fm_Fd RX5 5 7 73 := ⟨RX5, TX5, 8, tyX5, rfl, by decide, us_X5, fm_mem 218 (by decide +kernel) rfl, tyX5_ok, nmX5⟩
theorem fd_X8_163 : fm_Fd RX8 5 7 163 := ⟨RX5, TX5, 8, tyX5, rfl, by decide, us_X5, fm_mem 219 (by decide +kernel) rfl, tyX5_ok, nmX5⟩
theorem fd_X8_11 : fm_Fd RX8 7 0 11 := ⟨RX8, TX8, 9, tyX8, rfl, by decide, us_X8, fm_mem 237 (by decide +kernel) rfl, tyX8_ok, nmX8⟩
theorem fd_X8_64 : fm_Fd RX8 7 1 64 := ⟨RX8, TX8, 9, tyX8, rfl, by decide, us_X8, fm_mem 238 (by decide +kernel) rfl, tyX8_ok, nmX8⟩
theorem fd_X8_18 : fm_Fd RX8 7 2 18 := ⟨RX8, TX8, 9, tyX8, rfl, by decide, us_X8, fm_mem 239 (by decide +kernel) rfl, tyX8_ok, nmX8⟩
theorem fd_X8_22 : fm_Fd RX8 7 3 22 := ⟨RX8, TX8, 9, tyX8, rfl, by decide, us_X8, fm_mem 240 (by decide +kernel) rfl, tyX8_ok, nmX8⟩
theorem fd_X8_29 : fm_Fd RX8 7 4 29 := ⟨RX8, TX8, 9, tyX8, rfl, by decide, us_X8, fm_mem 241 (by decide +kernel) rfl, tyX8_ok, nmX8⟩
theorem fd_X8_60 : fm_Fd RX8 7 5 60 := ⟨RX8, TX8, 9, tyX8, rfl, by decide, us_X8, fm_mem 242 (by decide +kernel) rfl, tyX8_ok, nmX8⟩
theorem fd_X8_36 : fm_Fd RX8 7 6 36 := ⟨RX8, TX8, 9, tyX8, rfl, by decide, us_X8, fm_mem 243 (by decide +kernel) rfl, tyX8_ok, nmX8⟩
theorem fd_X8_43 : fm_Fd RX8 7 7 43 := ⟨RX8, TX8, 9, tyX8, rfl, by decide, us_X8, fm_mem 244 (by decide +kernel) rfl, tyX8_ok, nmX8⟩
theorem fd_X8_50 : fm_Fd RX8 7 8 50 := ⟨RX8, TX8, 9, tyX8, rfl, by decide, us_X8, fm_mem 245 (by decide +kernel) rfl, tyX8_ok, nmX8⟩
theorem fd_X9_73 : fm_Fd RX9 8 0 73 := ⟨RX9, TX9, 25, tyX9, rfl, by decide, us_X9, fm_mem 582 (by decide +kernel) rfl, tyX9_ok, nmX9⟩
theorem fd_X9_7 : fm_Fd RX9 8 1 7 := ⟨RX9, TX9, 25, tyX9, rfl, by decide, us_X9, fm_mem 583 (by decide +kernel) rfl, tyX9_ok, nmX9⟩
theorem fd_X9_13 : fm_Fd RX9 8 2 13 := ⟨RX9, TX9, 25, tyX9, rfl, by decide, us_X9, fm_mem 584 (by decide +kernel) rfl, tyX9_ok, nmX9⟩
theorem fd_X9_16 : fm_Fd RX9 8 3 16 := ⟨RX9, TX9, 25, tyX9, rfl, by decide, us_X9, fm_mem 585 (by decide +kernel) rfl, tyX9_ok, nmX9⟩
theorem fd_X9_19 : fm_Fd RX9 8 4 19 := ⟨RX9, TX9, 25, tyX9, rfl, by decide, us_X9, fm_mem 586 (by decide +kernel) rfl, tyX9_ok, nmX9⟩
theorem fd_X9_22 : fm_Fd RX9 8 5 22 := ⟨RX9, TX9, 25, tyX9, rfl, by decide, us_X9, fm_mem 587 (by decide +kernel) rfl, tyX9_ok, nmX9⟩
theorem fd_X9_25 : fm_Fd RX9 8 6 25 := ⟨RX9, TX9, 25, tyX9, rfl, by decide, us_X9, fm_mem 588 (by decide +kernel) rfl, tyX9_ok, nmX9⟩
theorem fd_X9_140 : fm_Fd RX9 8 7 140 := ⟨RX9, TX9, 25, tyX9, rfl, by decide, us_X9, fm_mem 589 (by decide +kernel) rfl, tyX9_ok, nmX9⟩
theorem fd_X9_28 : fm_Fd RX9 8 8 28 := ⟨RX9, TX9, 25, tyX9, rfl, by decide, us_X9, fm_mem 590 (by decide +kernel) rfl, tyX9_ok, nmX9⟩
theorem fd_X9_31 : fm_Fd RX9 8 9 31 := ⟨RX9, TX9, 25, tyX9, rfl, by decide, us_X9, fm_mem 591 (by decide +kernel) rfl, tyX9_ok, nmX9⟩
theorem fd_X9_34 : fm_Fd RX9 8 10 34 := ⟨RX9, TX9, 25, tyX9, rfl, by decide, us_X9, fm_mem 592 (by decide +kernel) rfl, tyX9_ok, nmX9⟩
theorem fd_X9_37 : fm_Fd RX9 8 11 37 := ⟨RX9, TX9, 25, tyX9, rfl, by decide, us_X9, fm_mem 593 (by decide +kernel) rfl, tyX9_ok, nmX9⟩
theorem fd_X9_146 : fm_Fd RX9 8 12 146 := ⟨RX9, TX9, 25, tyX9, rfl, by decide, us_X9, fm_mem 594 (by decide +kernel) rfl, tyX9_ok, nmX9⟩
theorem fd_X9_40 : fm_Fd RX9 8 13 40 := ⟨RX9, TX9, 25, tyX9, rfl, by decide, us_X9, fm_mem 595 (by decide +kernel) rfl, tyX9_ok, nmX9⟩
theorem fd_X9_43 : fm_Fd RX9 8 14 43 := ⟨RX9, TX9, 25, tyX9, rfl, by decide, us_X9, fm_mem 596 (by decide +kernel) rfl, tyX9_ok, nmX9⟩
theorem fd_X9_46 : fm_Fd RX9 8 15 46 := ⟨RX9, TX9, 25, tyX9, rfl, by decide, us_X9, fm_mem 597 (by decide +kernel) rfl, tyX9_ok, nmX9⟩
theorem fd_X9_95 : fm_Fd RX9 8 16 95 := ⟨RX9, TX9, 25, tyX9, rfl, by decide, us_X9, fm_mem 598 (by decide +kernel) rfl, tyX9_ok, nmX9⟩
theorem fd_X9_49 : fm_Fd RX9 8 17 49 := ⟨RX9, TX9, 25, tyX9, rfl, by decide, us_X9, fm_mem 599 (by decide +kernel) rfl, tyX9_ok, nmX9⟩
theorem fd_X9_52 : fm_Fd RX9 8 18 52 := ⟨RX9, TX9, 25, tyX9, rfl, by decide, us_X9, fm_mem 600 (by decide +kernel) rfl, tyX9_ok, nmX9⟩
theorem fd_X9_55 : fm_Fd RX9 8 19 55 := ⟨RX9, TX9, 25, tyX9, rfl, by decide, us_X9, fm_mem 601 (by decide +kernel) rfl, tyX9_ok, nmX9⟩
theorem fd_X9_58 : fm_Fd RX9 8 20 58 := ⟨RX9, TX9, 25, tyX9, rfl, by decide, us_X9, fm_mem 602 (by decide +kernel) rfl, tyX9_ok, nmX9⟩
theorem fd_X9_61 : fm_Fd RX9 8 21 61 := ⟨RX9, TX9, 25, tyX9, rfl, by decide, us_X9, fm_mem 603 (by decide +kernel) rfl, tyX9_ok, nmX9⟩
theorem fd_X9_64 : fm_Fd RX9 8 22 64 := ⟨RX9, TX9, 25, tyX9, rfl, by decide, us_X9, fm_mem 604 (by decide +kernel) rfl, tyX9_ok, nmX9⟩
theorem fd_X9_67 : fm_Fd RX9 8 23 67 := ⟨RX9, TX9, 25, tyX9, rfl, by decide, us_X9, fm_mem 605 (by decide +kernel) rfl, tyX9_ok, nmX9⟩
theorem fd_X9_70 : fm_Fd RX9 8 24 70 := ⟨RX9, TX9, 25, tyX9, rfl, by decide, us_X9, fm_mem 606 (by decide +kernel) rfl, tyX9_ok, nmX9⟩
theorem wr_X0_4 : fm_Wr 0 4 := ⟨RX0, TX0, 5, rfl, rfl, by decide +kernel⟩
theorem wr_X2_4 : fm_Wr 2 4 := ⟨RX2, TX2, 5, rfl, rfl, by decide +kernel⟩
theorem wr_X3_3 : fm_Wr 3 3 := ⟨RX3, TX3, 4, rfl, rfl, by decide +kernel⟩
theorem wr_X4_2 : fm_Wr 4 2 := ⟨RX4, TX4, 3, rfl, rfl, by decide +kernel⟩
theorem wr_X5_7 : fm_Wr 5 7 := ⟨RX5, TX5, 8, rfl, rfl, by decide +kernel⟩
theorem wr_X6_3 : fm_Wr 6 3 := ⟨RX6, TX6, 4, rfl, rfl, by decide +kernel⟩
theorem wr_X8_1 : fm_Wr 7 1 := ⟨RX8, TX8, 9, rfl, rfl, by decide +kernel⟩
theorem wr_X9_0 : fm_Wr 8 0 := ⟨RX9, TX9, 25, rfl, rfl, by decide +kernel⟩
theorem wr_X9_7 : fm_Wr 8 7 := ⟨RX9, TX9, 25, rfl, rfl, by decide +kernel⟩
theorem wr_X9_12 : fm_Wr 8 12 := ⟨RX9, TX9, 25, rfl, rfl, by decide +kernel⟩
theorem wr_X9_16 : fm_Wr 8 16 := ⟨RX9, TX9, 25, rfl, rfl, by decide +kernel⟩
set_option maxRecDepth 100000 in
theorem cl_L_13 : fm_CV RL 13 7 yX8_copy cX8_copy 1 (some .int) 0 := ⟨⟨fm_mem 265 (by decide +kernel) rfl, fm_mem 266 (by decide +kernel) rfl, fm_mem 267 (by decide +kernel) rfl, fm_mem 43 (by decide +kernel) rfl, fm_mem 268 (by rfl) rfl⟩, ⟨TX8, 9, rfl⟩, by decide +kernel, by decide +kernel, by decide +kernel⟩
set_option maxRecDepth 100000 in
theorem cl_L_18 : fm_CV RL 18 7 yX8_frame cX8_frame 6 (some .int) 4 := ⟨⟨fm_mem 269 (by decide +kernel) rfl, fm_mem 270 (by decide +kernel) rfl, fm_mem 271 (by decide +kernel) rfl, fm_mem 43 (by decide +kernel) rfl, fm_mem 272 (by rfl) rfl⟩, ⟨TX8, 9, rfl⟩, by decide +kernel, by decide +kernel, by decide +kernel⟩
set_option maxRecDepth 100000 in
theorem cl_X8_68 : fm_CV RX8 68 7 yX8_isCopy cX8_isCopy 2 (some .boolean) 1 := ⟨⟨fm_mem 273 (by decide +kernel) rfl, fm_mem 275 (by decide +kernel) rfl, fm_mem 0 (by decide +kernel) rfl, fm_mem 43 (by decide +kernel) rfl, fm_mem 276 (by rfl) rfl⟩, ⟨TX8, 9, rfl⟩, by decide +kernel, by decide +kernel, by decide +kernel⟩
set_option maxRecDepth 100000 in
theorem cl_X8_72 : fm_CS RX8 72 yX8_isWithin cX8_isWithin 2 (some .boolean) 2 := ⟨⟨fm_mem 277 (by decide +kernel) rfl, fm_mem 278 (by decide +kernel) rfl, fm_mem 43 (by decide +kernel) rfl, fm_mem 279 (by rfl) rfl⟩, by decide +kernel, by decide +kernel, by decide +kernel⟩
set_option maxRecDepth 100000 in
theorem cl_X8_76 : fm_CV RX8 76 3 yX3_hasRoomFor cX3_hasRoomFor 2 (some .boolean) 1 := ⟨⟨fm_mem 280 (by decide +kernel) rfl, fm_mem 281 (by decide +kernel) rfl, fm_mem 282 (by decide +kernel) rfl, fm_mem 49 (by decide +kernel) rfl, fm_mem 283 (by rfl) rfl⟩, ⟨TX3, 4, rfl⟩, by decide +kernel, by decide +kernel, by decide +kernel⟩
set_option maxRecDepth 100000 in
theorem cl_X8_79 : fm_CV RX8 79 3 yX3_append cX3_append 4 none 3 := ⟨⟨fm_mem 284 (by decide +kernel) rfl, fm_mem 285 (by decide +kernel) rfl, fm_mem 286 (by decide +kernel) rfl, fm_mem 49 (by decide +kernel) rfl, fm_mem 287 (by rfl) rfl⟩, ⟨TX3, 4, rfl⟩, by decide +kernel, by decide +kernel, by decide +kernel⟩
set_option maxRecDepth 100000 in
theorem cl_L_25 : fm_CV RL 25 7 yX8_frames cX8_frames 8 (some .int) 3 := ⟨⟨fm_mem 288 (by decide +kernel) rfl, fm_mem 289 (by decide +kernel) rfl, fm_mem 290 (by decide +kernel) rfl, fm_mem 43 (by decide +kernel) rfl, fm_mem 291 (by rfl) rfl⟩, ⟨TX8, 9, rfl⟩, by decide +kernel, by decide +kernel, by decide +kernel⟩
set_option maxRecDepth 100000 in
theorem cl_X8_86 : fm_CS RX8 86 yX7_isTold cX7_isTold 5 (some .boolean) 2 := ⟨⟨fm_mem 292 (by decide +kernel) rfl, fm_mem 293 (by decide +kernel) rfl, fm_mem 52 (by decide +kernel) rfl, fm_mem 294 (by rfl) rfl⟩, by decide +kernel, by decide +kernel, by decide +kernel⟩
set_option maxRecDepth 100000 in
theorem cl_X7_9 : fm_CS RX7 9 yX7_bitsOf cX7_bitsOf 4 (some .int) 3 := ⟨⟨fm_mem 295 (by decide +kernel) rfl, fm_mem 296 (by decide +kernel) rfl, fm_mem 52 (by decide +kernel) rfl, fm_mem 297 (by rfl) rfl⟩, by decide +kernel, by decide +kernel, by decide +kernel⟩
set_option maxRecDepth 100000 in
theorem cl_X7_15 : fm_CS RX7 15 yX7_wearIn cX7_wearIn 1 (some .int) 1 := ⟨⟨fm_mem 299 (by decide +kernel) rfl, fm_mem 300 (by decide +kernel) rfl, fm_mem 52 (by decide +kernel) rfl, fm_mem 301 (by rfl) rfl⟩, by decide +kernel, by decide +kernel, by decide +kernel⟩
set_option maxRecDepth 100000 in
theorem cl_X8_92 : fm_CS RX8 92 yX7_bitsOf cX7_bitsOf 4 (some .int) 3 := ⟨⟨fm_mem 302 (by decide +kernel) rfl, fm_mem 296 (by decide +kernel) rfl, fm_mem 52 (by decide +kernel) rfl, fm_mem 297 (by rfl) rfl⟩, by decide +kernel, by decide +kernel, by decide +kernel⟩
set_option maxRecDepth 100000 in
theorem cl_X8_96 : fm_CS RX8 96 yX7_markIn cX7_markIn 1 (some .int) 1 := ⟨⟨fm_mem 303 (by decide +kernel) rfl, fm_mem 304 (by decide +kernel) rfl, fm_mem 52 (by decide +kernel) rfl, fm_mem 305 (by rfl) rfl⟩, by decide +kernel, by decide +kernel, by decide +kernel⟩
set_option maxRecDepth 100000 in
theorem cl_X8_100 : fm_CS RX8 100 yX7_wearIn cX7_wearIn 1 (some .int) 1 := ⟨⟨fm_mem 306 (by decide +kernel) rfl, fm_mem 300 (by decide +kernel) rfl, fm_mem 52 (by decide +kernel) rfl, fm_mem 301 (by rfl) rfl⟩, by decide +kernel, by decide +kernel, by decide +kernel⟩
set_option maxRecDepth 100000 in
theorem cl_X8_103 : fm_CS RX8 103 yX7_cameraIn cX7_cameraIn 1 (some .int) 1 := ⟨⟨fm_mem 307 (by decide +kernel) rfl, fm_mem 308 (by decide +kernel) rfl, fm_mem 52 (by decide +kernel) rfl, fm_mem 309 (by rfl) rfl⟩, by decide +kernel, by decide +kernel, by decide +kernel⟩
set_option maxRecDepth 100000 in
theorem cl_L_30 : fm_CV RL 30 7 yX8_at cX8_at 5 (some .int) 3 := ⟨⟨fm_mem 310 (by decide +kernel) rfl, fm_mem 311 (by decide +kernel) rfl, fm_mem 312 (by decide +kernel) rfl, fm_mem 43 (by decide +kernel) rfl, fm_mem 313 (by rfl) rfl⟩, ⟨TX8, 9, rfl⟩, by decide +kernel, by decide +kernel, by decide +kernel⟩
set_option maxRecDepth 100000 in
theorem cl_X8_106 : fm_CV RX8 106 7 yX8_isFrame cX8_isFrame 3 (some .boolean) 2 := ⟨⟨fm_mem 314 (by decide +kernel) rfl, fm_mem 316 (by decide +kernel) rfl, fm_mem 1 (by decide +kernel) rfl, fm_mem 43 (by decide +kernel) rfl, fm_mem 317 (by rfl) rfl⟩, ⟨TX8, 9, rfl⟩, by decide +kernel, by decide +kernel, by decide +kernel⟩
set_option maxRecDepth 100000 in
theorem cl_L_35 : fm_CV RL 35 7 yX8_wear cX8_wear 5 (some .int) 3 := ⟨⟨fm_mem 318 (by decide +kernel) rfl, fm_mem 319 (by decide +kernel) rfl, fm_mem 320 (by decide +kernel) rfl, fm_mem 43 (by decide +kernel) rfl, fm_mem 321 (by rfl) rfl⟩, ⟨TX8, 9, rfl⟩, by decide +kernel, by decide +kernel, by decide +kernel⟩
set_option maxRecDepth 100000 in
theorem cl_X8_118 : fm_CV RX8 118 7 yX8_changeWear cX8_changeWear 5 none 3 := ⟨⟨fm_mem 322 (by decide +kernel) rfl, fm_mem 324 (by decide +kernel) rfl, fm_mem 2 (by decide +kernel) rfl, fm_mem 43 (by decide +kernel) rfl, fm_mem 325 (by rfl) rfl⟩, ⟨TX8, 9, rfl⟩, by decide +kernel, by decide +kernel, by decide +kernel⟩
set_option maxRecDepth 100000 in
theorem cl_X8_222 : fm_CV RX8 222 6 yX6_keep cX6_keep 4 none 3 := ⟨⟨fm_mem 326 (by decide +kernel) rfl, fm_mem 327 (by decide +kernel) rfl, fm_mem 328 (by decide +kernel) rfl, fm_mem 48 (by decide +kernel) rfl, fm_mem 329 (by rfl) rfl⟩, ⟨TX6, 4, rfl⟩, by decide +kernel, by decide +kernel, by decide +kernel⟩
set_option maxRecDepth 100000 in
theorem cl_X6_25 : fm_CV RX6 25 6 yX6_dropOldest cX6_dropOldest 1 none 0 := ⟨⟨fm_mem 330 (by decide +kernel) rfl, fm_mem 332 (by decide +kernel) rfl, fm_mem 3 (by decide +kernel) rfl, fm_mem 48 (by decide +kernel) rfl, fm_mem 333 (by rfl) rfl⟩, ⟨TX6, 4, rfl⟩, by decide +kernel, by decide +kernel, by decide +kernel⟩
set_option maxRecDepth 100000 in
theorem cl_L_39 : fm_CV RL 39 7 yX8_place cX8_place 3 (some .int) 2 := ⟨⟨fm_mem 337 (by decide +kernel) rfl, fm_mem 338 (by decide +kernel) rfl, fm_mem 339 (by decide +kernel) rfl, fm_mem 43 (by decide +kernel) rfl, fm_mem 340 (by rfl) rfl⟩, ⟨TX8, 9, rfl⟩, by decide +kernel, by decide +kernel, by decide +kernel⟩
set_option maxRecDepth 100000 in
theorem cl_X8_122 : fm_CV RX8 122 4 yX4_append cX4_append 3 none 2 := ⟨⟨fm_mem 341 (by decide +kernel) rfl, fm_mem 342 (by decide +kernel) rfl, fm_mem 343 (by decide +kernel) rfl, fm_mem 44 (by decide +kernel) rfl, fm_mem 344 (by rfl) rfl⟩, ⟨TX4, 3, rfl⟩, by decide +kernel, by decide +kernel, by decide +kernel⟩
set_option maxRecDepth 100000 in
theorem cl_L_44 : fm_CV RL 44 7 yX8_noScript cX8_noScript 2 (some .int) 0 := ⟨⟨fm_mem 345 (by decide +kernel) rfl, fm_mem 346 (by decide +kernel) rfl, fm_mem 347 (by decide +kernel) rfl, fm_mem 43 (by decide +kernel) rfl, fm_mem 348 (by rfl) rfl⟩, ⟨TX8, 9, rfl⟩, by decide +kernel, by decide +kernel, by decide +kernel⟩
set_option maxRecDepth 100000 in
theorem cl_L_48 : fm_CV RL 48 7 yX8_rule cX8_rule 4 (some .int) 2 := ⟨⟨fm_mem 349 (by decide +kernel) rfl, fm_mem 350 (by decide +kernel) rfl, fm_mem 351 (by decide +kernel) rfl, fm_mem 43 (by decide +kernel) rfl, fm_mem 352 (by rfl) rfl⟩, ⟨TX8, 9, rfl⟩, by decide +kernel, by decide +kernel, by decide +kernel⟩
set_option maxRecDepth 100000 in
theorem cl_L_52 : fm_CV RL 52 7 yX8_line cX8_line 4 (some .int) 3 := ⟨⟨fm_mem 355 (by decide +kernel) rfl, fm_mem 356 (by decide +kernel) rfl, fm_mem 357 (by decide +kernel) rfl, fm_mem 43 (by decide +kernel) rfl, fm_mem 358 (by rfl) rfl⟩, ⟨TX8, 9, rfl⟩, by decide +kernel, by decide +kernel, by decide +kernel⟩
set_option maxRecDepth 100000 in
theorem cl_X8_128 : fm_CV RX8 128 7 yX8_isRow cX8_isRow 2 (some .boolean) 1 := ⟨⟨fm_mem 359 (by decide +kernel) rfl, fm_mem 361 (by decide +kernel) rfl, fm_mem 4 (by decide +kernel) rfl, fm_mem 43 (by decide +kernel) rfl, fm_mem 362 (by rfl) rfl⟩, ⟨TX8, 9, rfl⟩, by decide +kernel, by decide +kernel, by decide +kernel⟩
set_option maxRecDepth 100000 in
theorem cl_X8_131 : fm_CV RX8 131 7 yX8_sizeOfRow cX8_sizeOfRow 2 (some .int) 1 := ⟨⟨fm_mem 363 (by decide +kernel) rfl, fm_mem 365 (by decide +kernel) rfl, fm_mem 5 (by decide +kernel) rfl, fm_mem 43 (by decide +kernel) rfl, fm_mem 366 (by rfl) rfl⟩, ⟨TX8, 9, rfl⟩, by decide +kernel, by decide +kernel, by decide +kernel⟩
set_option maxRecDepth 100000 in
theorem cl_X8_134 : fm_CV RX8 134 7 yX8_marksOfRow cX8_marksOfRow 2 (some (.array .int)) 1 := ⟨⟨fm_mem 367 (by decide +kernel) rfl, fm_mem 369 (by decide +kernel) rfl, fm_mem 6 (by decide +kernel) rfl, fm_mem 43 (by decide +kernel) rfl, fm_mem 370 (by rfl) rfl⟩, ⟨TX8, 9, rfl⟩, by decide +kernel, by decide +kernel, by decide +kernel⟩
set_option maxRecDepth 100000 in
theorem cl_X8_138 : fm_CV RX8 138 1 yX1_lineUp cX1_lineUp 7 none 4 := ⟨⟨fm_mem 371 (by decide +kernel) rfl, fm_mem 372 (by decide +kernel) rfl, fm_mem 373 (by decide +kernel) rfl, fm_mem 45 (by decide +kernel) rfl, fm_mem 374 (by rfl) rfl⟩, ⟨TX1, 2, rfl⟩, by decide +kernel, by decide +kernel, by decide +kernel⟩
set_option maxRecDepth 100000 in
theorem cl_X1_20 : fm_CV RX1 20 1 yX1_fillLeast cX1_fillLeast 10 none 4 := ⟨⟨fm_mem 375 (by decide +kernel) rfl, fm_mem 377 (by decide +kernel) rfl, fm_mem 7 (by decide +kernel) rfl, fm_mem 45 (by decide +kernel) rfl, fm_mem 378 (by rfl) rfl⟩, ⟨TX1, 2, rfl⟩, by decide +kernel, by decide +kernel, by decide +kernel⟩
set_option maxRecDepth 100000 in
theorem cl_X1_32 : fm_CS RX1 32 Lib.Math.min.name Lib.Math.min.code 2 (some .int) 2 := ⟨⟨fm_mem 379 (by decide +kernel) rfl, fm_mem 380 (by decide +kernel) rfl, fm_mem 54 (by decide +kernel) rfl, fm_mem 381 (by rfl) rfl⟩, by decide +kernel, by decide +kernel, by decide +kernel⟩
set_option maxRecDepth 100000 in
theorem cl_X1_38 : fm_CS RX1 38 yX1_pairCost cX1_pairCost 2 (some .int) 2 := ⟨⟨fm_mem 382 (by decide +kernel) rfl, fm_mem 383 (by decide +kernel) rfl, fm_mem 45 (by decide +kernel) rfl, fm_mem 384 (by rfl) rfl⟩, by decide +kernel, by decide +kernel, by decide +kernel⟩
set_option maxRecDepth 100000 in
theorem cl_X1_41 : fm_CS RX1 41 Lib.Math.abs.name Lib.Math.abs.code 1 (some .int) 1 := ⟨⟨fm_mem 385 (by decide +kernel) rfl, fm_mem 386 (by decide +kernel) rfl, fm_mem 54 (by decide +kernel) rfl, fm_mem 387 (by rfl) rfl⟩, by decide +kernel, by decide +kernel, by decide +kernel⟩
set_option maxRecDepth 100000 in
theorem cl_X1_24 : fm_CV RX1 24 1 yX1_canPair cX1_canPair 5 (some .boolean) 4 := ⟨⟨fm_mem 388 (by decide +kernel) rfl, fm_mem 390 (by decide +kernel) rfl, fm_mem 8 (by decide +kernel) rfl, fm_mem 45 (by decide +kernel) rfl, fm_mem 391 (by rfl) rfl⟩, ⟨TX1, 2, rfl⟩, by decide +kernel, by decide +kernel, by decide +kernel⟩
set_option maxRecDepth 100000 in
theorem cl_X1_28 : fm_CV RX1 28 1 yX1_canLeaveSecond cX1_canLeaveSecond 3 (some .boolean) 2 := ⟨⟨fm_mem 392 (by decide +kernel) rfl, fm_mem 394 (by decide +kernel) rfl, fm_mem 9 (by decide +kernel) rfl, fm_mem 45 (by decide +kernel) rfl, fm_mem 395 (by rfl) rfl⟩, ⟨TX1, 2, rfl⟩, by decide +kernel, by decide +kernel, by decide +kernel⟩
set_option maxRecDepth 100000 in
theorem cl_X8_142 : fm_CV RX8 142 1 yX1_cost cX1_cost 1 (some .int) 0 := ⟨⟨fm_mem 396 (by decide +kernel) rfl, fm_mem 397 (by decide +kernel) rfl, fm_mem 398 (by decide +kernel) rfl, fm_mem 45 (by decide +kernel) rfl, fm_mem 399 (by rfl) rfl⟩, ⟨TX1, 2, rfl⟩, by decide +kernel, by decide +kernel, by decide +kernel⟩
set_option maxRecDepth 100000 in
theorem cl_L_56 : fm_CV RL 56 7 yX8_stands cX8_stands 3 (some .int) 2 := ⟨⟨fm_mem 400 (by decide +kernel) rfl, fm_mem 401 (by decide +kernel) rfl, fm_mem 402 (by decide +kernel) rfl, fm_mem 43 (by decide +kernel) rfl, fm_mem 403 (by rfl) rfl⟩, ⟨TX8, 9, rfl⟩, by decide +kernel, by decide +kernel, by decide +kernel⟩
set_option maxRecDepth 100000 in
theorem cl_X8_149 : fm_CV RX8 149 4 yX4_has cX4_has 2 (some .boolean) 1 := ⟨⟨fm_mem 404 (by decide +kernel) rfl, fm_mem 405 (by decide +kernel) rfl, fm_mem 406 (by decide +kernel) rfl, fm_mem 44 (by decide +kernel) rfl, fm_mem 407 (by rfl) rfl⟩, ⟨TX4, 3, rfl⟩, by decide +kernel, by decide +kernel, by decide +kernel⟩
set_option maxRecDepth 100000 in
theorem cl_X8_152 : fm_CV RX8 152 5 yX5_findStanding cX5_findStanding 6 none 1 := ⟨⟨fm_mem 408 (by decide +kernel) rfl, fm_mem 409 (by decide +kernel) rfl, fm_mem 410 (by decide +kernel) rfl, fm_mem 50 (by decide +kernel) rfl, fm_mem 411 (by rfl) rfl⟩, ⟨TX5, 8, rfl⟩, by decide +kernel, by decide +kernel, by decide +kernel⟩
set_option maxRecDepth 100000 in
theorem cl_X5_51 : fm_CV RX5 51 1 yX1_lineUp cX1_lineUp 7 none 4 := ⟨⟨fm_mem 412 (by decide +kernel) rfl, fm_mem 372 (by decide +kernel) rfl, fm_mem 373 (by decide +kernel) rfl, fm_mem 45 (by decide +kernel) rfl, fm_mem 374 (by rfl) rfl⟩, ⟨TX1, 2, rfl⟩, by decide +kernel, by decide +kernel, by decide +kernel⟩
set_option maxRecDepth 100000 in
theorem cl_X5_60 : fm_CS RX5 60 Lib.Math.abs.name Lib.Math.abs.code 1 (some .int) 1 := ⟨⟨fm_mem 413 (by decide +kernel) rfl, fm_mem 386 (by decide +kernel) rfl, fm_mem 54 (by decide +kernel) rfl, fm_mem 387 (by rfl) rfl⟩, by decide +kernel, by decide +kernel, by decide +kernel⟩
set_option maxRecDepth 100000 in
theorem cl_L_60 : fm_CV RL 60 7 yX8_whole cX8_whole 2 (some .int) 1 := ⟨⟨fm_mem 414 (by decide +kernel) rfl, fm_mem 415 (by decide +kernel) rfl, fm_mem 416 (by decide +kernel) rfl, fm_mem 43 (by decide +kernel) rfl, fm_mem 417 (by rfl) rfl⟩, ⟨TX8, 9, rfl⟩, by decide +kernel, by decide +kernel, by decide +kernel⟩
set_option maxRecDepth 100000 in
theorem cl_X8_160 : fm_CV RX8 160 5 yX5_choose cX5_choose 3 none 0 := ⟨⟨fm_mem 418 (by decide +kernel) rfl, fm_mem 419 (by decide +kernel) rfl, fm_mem 420 (by decide +kernel) rfl, fm_mem 50 (by decide +kernel) rfl, fm_mem 421 (by rfl) rfl⟩, ⟨TX5, 8, rfl⟩, by decide +kernel, by decide +kernel, by decide +kernel⟩
set_option maxRecDepth 100000 in
theorem cl_X5_66 : fm_CV RX5 66 5 yX5_findStanding cX5_findStanding 6 none 1 := ⟨⟨fm_mem 422 (by decide +kernel) rfl, fm_mem 409 (by decide +kernel) rfl, fm_mem 410 (by decide +kernel) rfl, fm_mem 50 (by decide +kernel) rfl, fm_mem 411 (by rfl) rfl⟩, ⟨TX5, 8, rfl⟩, by decide +kernel, by decide +kernel, by decide +kernel⟩
set_option maxRecDepth 100000 in
theorem cl_X5_70 : fm_CV RX5 70 5 yX5_fillLeast cX5_fillLeast 3 none 0 := ⟨⟨fm_mem 423 (by decide +kernel) rfl, fm_mem 425 (by decide +kernel) rfl, fm_mem 10 (by decide +kernel) rfl, fm_mem 50 (by decide +kernel) rfl, fm_mem 426 (by rfl) rfl⟩, ⟨TX5, 8, rfl⟩, by decide +kernel, by decide +kernel, by decide +kernel⟩
set_option maxRecDepth 100000 in
theorem cl_X5_87 : fm_CV RX5 87 5 yX5_canBe cX5_canBe 3 (some .boolean) 2 := ⟨⟨fm_mem 427 (by decide +kernel) rfl, fm_mem 429 (by decide +kernel) rfl, fm_mem 11 (by decide +kernel) rfl, fm_mem 50 (by decide +kernel) rfl, fm_mem 430 (by rfl) rfl⟩, ⟨TX5, 8, rfl⟩, by decide +kernel, by decide +kernel, by decide +kernel⟩
set_option maxRecDepth 100000 in
theorem cl_X5_84 : fm_CV RX5 84 5 yX5_ownPrice cX5_ownPrice 3 (some .int) 2 := ⟨⟨fm_mem 431 (by decide +kernel) rfl, fm_mem 433 (by decide +kernel) rfl, fm_mem 12 (by decide +kernel) rfl, fm_mem 50 (by decide +kernel) rfl, fm_mem 434 (by rfl) rfl⟩, ⟨TX5, 8, rfl⟩, by decide +kernel, by decide +kernel, by decide +kernel⟩
set_option maxRecDepth 100000 in
theorem cl_X5_91 : fm_CV RX5 91 5 yX5_leastBehind cX5_leastBehind 5 (some .int) 2 := ⟨⟨fm_mem 435 (by decide +kernel) rfl, fm_mem 437 (by decide +kernel) rfl, fm_mem 13 (by decide +kernel) rfl, fm_mem 50 (by decide +kernel) rfl, fm_mem 438 (by rfl) rfl⟩, ⟨TX5, 8, rfl⟩, by decide +kernel, by decide +kernel, by decide +kernel⟩
set_option maxRecDepth 100000 in
theorem cl_X5_76 : fm_CV RX5 76 5 yX5_bestSource cX5_bestSource 7 (some .int) 2 := ⟨⟨fm_mem 439 (by decide +kernel) rfl, fm_mem 441 (by decide +kernel) rfl, fm_mem 14 (by decide +kernel) rfl, fm_mem 50 (by decide +kernel) rfl, fm_mem 442 (by rfl) rfl⟩, ⟨TX5, 8, rfl⟩, by decide +kernel, by decide +kernel, by decide +kernel⟩
set_option maxRecDepth 100000 in
theorem cl_X5_80 : fm_CV RX5 80 5 yX5_joinPrice cX5_joinPrice 6 (some .int) 3 := ⟨⟨fm_mem 444 (by decide +kernel) rfl, fm_mem 446 (by decide +kernel) rfl, fm_mem 15 (by decide +kernel) rfl, fm_mem 50 (by decide +kernel) rfl, fm_mem 447 (by rfl) rfl⟩, ⟨TX5, 8, rfl⟩, by decide +kernel, by decide +kernel, by decide +kernel⟩
set_option maxRecDepth 100000 in
theorem cl_X5_98 : fm_CV RX5 98 5 yX5_isJoined cX5_isJoined 4 (some .boolean) 3 := ⟨⟨fm_mem 448 (by decide +kernel) rfl, fm_mem 450 (by decide +kernel) rfl, fm_mem 16 (by decide +kernel) rfl, fm_mem 50 (by decide +kernel) rfl, fm_mem 451 (by rfl) rfl⟩, ⟨TX5, 8, rfl⟩, by decide +kernel, by decide +kernel, by decide +kernel⟩
set_option maxRecDepth 100000 in
theorem cl_X5_102 : fm_CV RX5 102 5 yX5_cameraOf cX5_cameraOf 3 (some .int) 2 := ⟨⟨fm_mem 452 (by decide +kernel) rfl, fm_mem 454 (by decide +kernel) rfl, fm_mem 17 (by decide +kernel) rfl, fm_mem 50 (by decide +kernel) rfl, fm_mem 455 (by rfl) rfl⟩, ⟨TX5, 8, rfl⟩, by decide +kernel, by decide +kernel, by decide +kernel⟩
set_option maxRecDepth 100000 in
theorem cl_L_65 : fm_CV RL 65 7 yX8_about cX8_about 4 (some .int) 1 := ⟨⟨fm_mem 456 (by decide +kernel) rfl, fm_mem 457 (by decide +kernel) rfl, fm_mem 458 (by decide +kernel) rfl, fm_mem 43 (by decide +kernel) rfl, fm_mem 459 (by rfl) rfl⟩, ⟨TX8, 9, rfl⟩, by decide +kernel, by decide +kernel, by decide +kernel⟩
set_option maxRecDepth 100000 in
theorem cl_X8_169 : fm_CV RX8 169 7 yX8_isCounted cX8_isCounted 3 (some .boolean) 2 := ⟨⟨fm_mem 460 (by decide +kernel) rfl, fm_mem 462 (by decide +kernel) rfl, fm_mem 18 (by decide +kernel) rfl, fm_mem 43 (by decide +kernel) rfl, fm_mem 463 (by rfl) rfl⟩, ⟨TX8, 9, rfl⟩, by decide +kernel, by decide +kernel, by decide +kernel⟩
set_option maxRecDepth 100000 in
theorem cl_X8_225 : fm_CV RX8 225 5 yX5_changesCopy cX5_changesCopy 2 (some .boolean) 1 := ⟨⟨fm_mem 464 (by decide +kernel) rfl, fm_mem 465 (by decide +kernel) rfl, fm_mem 466 (by decide +kernel) rfl, fm_mem 50 (by decide +kernel) rfl, fm_mem 467 (by rfl) rfl⟩, ⟨TX5, 8, rfl⟩, by decide +kernel, by decide +kernel, by decide +kernel⟩
set_option maxRecDepth 100000 in
theorem cl_X8_228 : fm_CV RX8 228 5 yX5_changesCamera cX5_changesCamera 2 (some .boolean) 1 := ⟨⟨fm_mem 468 (by decide +kernel) rfl, fm_mem 469 (by decide +kernel) rfl, fm_mem 470 (by decide +kernel) rfl, fm_mem 50 (by decide +kernel) rfl, fm_mem 471 (by rfl) rfl⟩, ⟨TX5, 8, rfl⟩, by decide +kernel, by decide +kernel, by decide +kernel⟩
set_option maxRecDepth 100000 in
theorem cl_L_69 : fm_CV RL 69 7 yX8_mend cX8_mend 3 (some .int) 1 := ⟨⟨fm_mem 472 (by decide +kernel) rfl, fm_mem 473 (by decide +kernel) rfl, fm_mem 474 (by decide +kernel) rfl, fm_mem 43 (by decide +kernel) rfl, fm_mem 475 (by rfl) rfl⟩, ⟨TX8, 9, rfl⟩, by decide +kernel, by decide +kernel, by decide +kernel⟩
set_option maxRecDepth 100000 in
theorem cl_X8_172 : fm_CV RX8 172 5 yX5_canBeMended cX5_canBeMended 2 (some .boolean) 1 := ⟨⟨fm_mem 476 (by decide +kernel) rfl, fm_mem 477 (by decide +kernel) rfl, fm_mem 478 (by decide +kernel) rfl, fm_mem 50 (by decide +kernel) rfl, fm_mem 479 (by rfl) rfl⟩, ⟨TX5, 8, rfl⟩, by decide +kernel, by decide +kernel, by decide +kernel⟩
set_option maxRecDepth 100000 in
theorem cl_X5_111 : fm_CV RX5 111 5 yX5_mends cX5_mends 3 (some .boolean) 2 := ⟨⟨fm_mem 480 (by decide +kernel) rfl, fm_mem 482 (by decide +kernel) rfl, fm_mem 19 (by decide +kernel) rfl, fm_mem 50 (by decide +kernel) rfl, fm_mem 483 (by rfl) rfl⟩, ⟨TX5, 8, rfl⟩, by decide +kernel, by decide +kernel, by decide +kernel⟩
set_option maxRecDepth 100000 in
theorem cl_X5_114 : fm_CV RX5 114 5 yX5_wearOf cX5_wearOf 2 (some .int) 1 := ⟨⟨fm_mem 484 (by decide +kernel) rfl, fm_mem 485 (by decide +kernel) rfl, fm_mem 486 (by decide +kernel) rfl, fm_mem 50 (by decide +kernel) rfl, fm_mem 487 (by rfl) rfl⟩, ⟨TX5, 8, rfl⟩, by decide +kernel, by decide +kernel, by decide +kernel⟩
set_option maxRecDepth 100000 in
theorem cl_X5_117 : fm_CV RX5 117 5 yX5_frameOf cX5_frameOf 2 (some .int) 1 := ⟨⟨fm_mem 488 (by decide +kernel) rfl, fm_mem 489 (by decide +kernel) rfl, fm_mem 490 (by decide +kernel) rfl, fm_mem 50 (by decide +kernel) rfl, fm_mem 491 (by rfl) rfl⟩, ⟨TX5, 8, rfl⟩, by decide +kernel, by decide +kernel, by decide +kernel⟩
set_option maxRecDepth 100000 in
theorem cl_X8_175 : fm_CV RX8 175 5 yX5_wearOf cX5_wearOf 2 (some .int) 1 := ⟨⟨fm_mem 492 (by decide +kernel) rfl, fm_mem 485 (by decide +kernel) rfl, fm_mem 486 (by decide +kernel) rfl, fm_mem 50 (by decide +kernel) rfl, fm_mem 487 (by rfl) rfl⟩, ⟨TX5, 8, rfl⟩, by decide +kernel, by decide +kernel, by decide +kernel⟩
set_option maxRecDepth 100000 in
theorem cl_X8_178 : fm_CS RX8 178 Lib.Math.max.name Lib.Math.max.code 2 (some .int) 2 := ⟨⟨fm_mem 493 (by decide +kernel) rfl, fm_mem 494 (by decide +kernel) rfl, fm_mem 54 (by decide +kernel) rfl, fm_mem 495 (by rfl) rfl⟩, by decide +kernel, by decide +kernel, by decide +kernel⟩
set_option maxRecDepth 100000 in
theorem cl_X8_184 : fm_CV RX8 184 5 yX5_frameOf cX5_frameOf 2 (some .int) 1 := ⟨⟨fm_mem 496 (by decide +kernel) rfl, fm_mem 489 (by decide +kernel) rfl, fm_mem 490 (by decide +kernel) rfl, fm_mem 50 (by decide +kernel) rfl, fm_mem 491 (by rfl) rfl⟩, ⟨TX5, 8, rfl⟩, by decide +kernel, by decide +kernel, by decide +kernel⟩
set_option maxRecDepth 100000 in
theorem cl_L_73 : fm_CV RL 73 7 yX8_note cX8_note 5 (some .int) 4 := ⟨⟨fm_mem 497 (by decide +kernel) rfl, fm_mem 498 (by decide +kernel) rfl, fm_mem 499 (by decide +kernel) rfl, fm_mem 43 (by decide +kernel) rfl, fm_mem 500 (by rfl) rfl⟩, ⟨TX8, 9, rfl⟩, by decide +kernel, by decide +kernel, by decide +kernel⟩
set_option maxRecDepth 100000 in
theorem cl_X8_188 : fm_CV RX8 188 2 yX2_append cX2_append 5 none 4 := ⟨⟨fm_mem 501 (by decide +kernel) rfl, fm_mem 502 (by decide +kernel) rfl, fm_mem 503 (by decide +kernel) rfl, fm_mem 46 (by decide +kernel) rfl, fm_mem 504 (by rfl) rfl⟩, ⟨TX2, 5, rfl⟩, by decide +kernel, by decide +kernel, by decide +kernel⟩
set_option maxRecDepth 100000 in
theorem cl_L_77 : fm_CV RL 77 7 yX8_tint cX8_tint 4 (some .int) 1 := ⟨⟨fm_mem 505 (by decide +kernel) rfl, fm_mem 506 (by decide +kernel) rfl, fm_mem 507 (by decide +kernel) rfl, fm_mem 43 (by decide +kernel) rfl, fm_mem 508 (by rfl) rfl⟩, ⟨TX8, 9, rfl⟩, by decide +kernel, by decide +kernel, by decide +kernel⟩
set_option maxRecDepth 100000 in
theorem cl_X8_191 : fm_CV RX8 191 2 yX2_tintOf cX2_tintOf 4 (some .int) 2 := ⟨⟨fm_mem 509 (by decide +kernel) rfl, fm_mem 510 (by decide +kernel) rfl, fm_mem 511 (by decide +kernel) rfl, fm_mem 46 (by decide +kernel) rfl, fm_mem 512 (by rfl) rfl⟩, ⟨TX2, 5, rfl⟩, by decide +kernel, by decide +kernel, by decide +kernel⟩
set_option maxRecDepth 100000 in
theorem cl_X8_194 : fm_CV RX8 194 7 yX8_tintOfLeastWorn cX8_tintOfLeastWorn 7 (some .int) 1 := ⟨⟨fm_mem 513 (by decide +kernel) rfl, fm_mem 515 (by decide +kernel) rfl, fm_mem 20 (by decide +kernel) rfl, fm_mem 43 (by decide +kernel) rfl, fm_mem 516 (by rfl) rfl⟩, ⟨TX8, 9, rfl⟩, by decide +kernel, by decide +kernel, by decide +kernel⟩
set_option maxRecDepth 100000 in
theorem cl_L_81 : fm_CV RL 81 7 yX8_cue cX8_cue 4 (some .int) 3 := ⟨⟨fm_mem 517 (by decide +kernel) rfl, fm_mem 518 (by decide +kernel) rfl, fm_mem 519 (by decide +kernel) rfl, fm_mem 43 (by decide +kernel) rfl, fm_mem 520 (by rfl) rfl⟩, ⟨TX8, 9, rfl⟩, by decide +kernel, by decide +kernel, by decide +kernel⟩
set_option maxRecDepth 100000 in
theorem cl_X8_198 : fm_CV RX8 198 0 yX0_append cX0_append 4 none 3 := ⟨⟨fm_mem 521 (by decide +kernel) rfl, fm_mem 522 (by decide +kernel) rfl, fm_mem 523 (by decide +kernel) rfl, fm_mem 47 (by decide +kernel) rfl, fm_mem 524 (by rfl) rfl⟩, ⟨TX0, 5, rfl⟩, by decide +kernel, by decide +kernel, by decide +kernel⟩
set_option maxRecDepth 100000 in
theorem cl_L_85 : fm_CV RL 85 7 yX8_noCues cX8_noCues 2 (some .int) 0 := ⟨⟨fm_mem 525 (by decide +kernel) rfl, fm_mem 526 (by decide +kernel) rfl, fm_mem 527 (by decide +kernel) rfl, fm_mem 43 (by decide +kernel) rfl, fm_mem 528 (by rfl) rfl⟩, ⟨TX8, 9, rfl⟩, by decide +kernel, by decide +kernel, by decide +kernel⟩
set_option maxRecDepth 100000 in
theorem cl_X8_199 : fm_CV RX8 199 0 yX0_clear cX0_clear 2 none 0 := ⟨⟨fm_mem 529 (by decide +kernel) rfl, fm_mem 530 (by decide +kernel) rfl, fm_mem 531 (by decide +kernel) rfl, fm_mem 47 (by decide +kernel) rfl, fm_mem 532 (by rfl) rfl⟩, ⟨TX0, 5, rfl⟩, by decide +kernel, by decide +kernel, by decide +kernel⟩
set_option maxRecDepth 100000 in
theorem cl_X0_30 : fm_CS RX0 30 yJ7_fill_53178 cJ7_fill_53178 4 none 2 := ⟨⟨fm_mem 533 (by decide +kernel) rfl, fm_mem 534 (by decide +kernel) rfl, fm_mem 55 (by decide +kernel) rfl, fm_mem 535 (by rfl) rfl⟩, by decide +kernel, by decide +kernel, by decide +kernel⟩
set_option maxRecDepth 100000 in
theorem cl_L_89 : fm_CV RL 89 7 yX8_order cX8_order 3 (some .int) 2 := ⟨⟨fm_mem 536 (by decide +kernel) rfl, fm_mem 537 (by decide +kernel) rfl, fm_mem 538 (by decide +kernel) rfl, fm_mem 43 (by decide +kernel) rfl, fm_mem 539 (by rfl) rfl⟩, ⟨TX8, 9, rfl⟩, by decide +kernel, by decide +kernel, by decide +kernel⟩
set_option maxRecDepth 100000 in
theorem cl_X8_202 : fm_CV RX8 202 0 yX0_findOrder cX0_findOrder 5 none 1 := ⟨⟨fm_mem 540 (by decide +kernel) rfl, fm_mem 541 (by decide +kernel) rfl, fm_mem 542 (by decide +kernel) rfl, fm_mem 47 (by decide +kernel) rfl, fm_mem 543 (by rfl) rfl⟩, ⟨TX0, 5, rfl⟩, by decide +kernel, by decide +kernel, by decide +kernel⟩
set_option maxRecDepth 100000 in
theorem cl_X0_36 : fm_CV RX0 36 0 yX0_weighSet cX0_weighSet 5 none 2 := ⟨⟨fm_mem 544 (by decide +kernel) rfl, fm_mem 546 (by decide +kernel) rfl, fm_mem 21 (by decide +kernel) rfl, fm_mem 47 (by decide +kernel) rfl, fm_mem 547 (by rfl) rfl⟩, ⟨TX0, 5, rfl⟩, by decide +kernel, by decide +kernel, by decide +kernel⟩
set_option maxRecDepth 100000 in
theorem cl_X0_45 : fm_CS RX0 45 yX0_isIn cX0_isIn 2 (some .boolean) 2 := ⟨⟨fm_mem 549 (by decide +kernel) rfl, fm_mem 550 (by decide +kernel) rfl, fm_mem 47 (by decide +kernel) rfl, fm_mem 551 (by rfl) rfl⟩, by decide +kernel, by decide +kernel, by decide +kernel⟩
set_option maxRecDepth 100000 in
theorem cl_X0_49 : fm_CV RX0 49 0 yX0_quarrelWith cX0_quarrelWith 6 (some .int) 3 := ⟨⟨fm_mem 552 (by decide +kernel) rfl, fm_mem 554 (by decide +kernel) rfl, fm_mem 22 (by decide +kernel) rfl, fm_mem 47 (by decide +kernel) rfl, fm_mem 555 (by rfl) rfl⟩, ⟨TX0, 5, rfl⟩, by decide +kernel, by decide +kernel, by decide +kernel⟩
set_option maxRecDepth 100000 in
theorem cl_X0_40 : fm_CV RX0 40 0 yX0_lowestNext cX0_lowestNext 4 (some .int) 2 := ⟨⟨fm_mem 556 (by decide +kernel) rfl, fm_mem 558 (by decide +kernel) rfl, fm_mem 23 (by decide +kernel) rfl, fm_mem 47 (by decide +kernel) rfl, fm_mem 559 (by rfl) rfl⟩, ⟨TX0, 5, rfl⟩, by decide +kernel, by decide +kernel, by decide +kernel⟩
set_option maxRecDepth 100000 in
theorem cl_X8_205 : fm_CV RX8 205 0 yX0_rivals cX0_rivals 1 (some .int) 0 := ⟨⟨fm_mem 560 (by decide +kernel) rfl, fm_mem 561 (by decide +kernel) rfl, fm_mem 562 (by decide +kernel) rfl, fm_mem 47 (by decide +kernel) rfl, fm_mem 563 (by rfl) rfl⟩, ⟨TX0, 5, rfl⟩, by decide +kernel, by decide +kernel, by decide +kernel⟩
set_option maxRecDepth 100000 in
theorem cl_X8_208 : fm_CV RX8 208 0 yX0_quarrel cX0_quarrel 1 (some .int) 0 := ⟨⟨fm_mem 564 (by decide +kernel) rfl, fm_mem 565 (by decide +kernel) rfl, fm_mem 566 (by decide +kernel) rfl, fm_mem 47 (by decide +kernel) rfl, fm_mem 567 (by rfl) rfl⟩, ⟨TX0, 5, rfl⟩, by decide +kernel, by decide +kernel, by decide +kernel⟩
set_option maxRecDepth 100000 in
theorem cl_L_93 : fm_CV RL 93 7 yX8_undo cX8_undo 3 (some .int) 0 := ⟨⟨fm_mem 568 (by decide +kernel) rfl, fm_mem 569 (by decide +kernel) rfl, fm_mem 570 (by decide +kernel) rfl, fm_mem 43 (by decide +kernel) rfl, fm_mem 571 (by rfl) rfl⟩, ⟨TX8, 9, rfl⟩, by decide +kernel, by decide +kernel, by decide +kernel⟩
set_option maxRecDepth 100000 in
theorem cl_L_97 : fm_CV RL 97 7 yX8_count cX8_count 2 (some .int) 1 := ⟨⟨fm_mem 572 (by decide +kernel) rfl, fm_mem 573 (by decide +kernel) rfl, fm_mem 574 (by decide +kernel) rfl, fm_mem 43 (by decide +kernel) rfl, fm_mem 575 (by rfl) rfl⟩, ⟨TX8, 9, rfl⟩, by decide +kernel, by decide +kernel, by decide +kernel⟩
set_option maxRecDepth 100000 in
theorem cl_L_17 : fm_CV RL 17 8 yX9_copy cX9_copy 1 (some .int) 0 := ⟨⟨fm_mem 658 (by decide +kernel) rfl, fm_mem 659 (by decide +kernel) rfl, fm_mem 660 (by decide +kernel) rfl, fm_mem 51 (by decide +kernel) rfl, fm_mem 661 (by rfl) rfl⟩, ⟨TX9, 25, rfl⟩, by decide +kernel, by decide +kernel, by decide +kernel⟩
set_option maxRecDepth 100000 in
theorem cl_L_22 : fm_CV RL 22 8 yX9_frame cX9_frame 5 (some .int) 4 := ⟨⟨fm_mem 662 (by decide +kernel) rfl, fm_mem 663 (by decide +kernel) rfl, fm_mem 664 (by decide +kernel) rfl, fm_mem 51 (by decide +kernel) rfl, fm_mem 665 (by rfl) rfl⟩, ⟨TX9, 25, rfl⟩, by decide +kernel, by decide +kernel, by decide +kernel⟩
set_option maxRecDepth 100000 in
theorem cl_X9_81 : fm_CV RX9 81 8 yX9_isCopy cX9_isCopy 2 (some .boolean) 1 := ⟨⟨fm_mem 666 (by decide +kernel) rfl, fm_mem 668 (by decide +kernel) rfl, fm_mem 24 (by decide +kernel) rfl, fm_mem 51 (by decide +kernel) rfl, fm_mem 669 (by rfl) rfl⟩, ⟨TX9, 25, rfl⟩, by decide +kernel, by decide +kernel, by decide +kernel⟩
set_option maxRecDepth 100000 in
theorem cl_X9_77 : fm_CS RX9 77 yX9_in cX9_in 3 (some .boolean) 3 := ⟨⟨fm_mem 670 (by decide +kernel) rfl, fm_mem 671 (by decide +kernel) rfl, fm_mem 51 (by decide +kernel) rfl, fm_mem 672 (by rfl) rfl⟩, by decide +kernel, by decide +kernel, by decide +kernel⟩
set_option maxRecDepth 100000 in
theorem cl_X9_85 : fm_CV RX9 85 8 yX9_lays cX9_lays 5 none 4 := ⟨⟨fm_mem 673 (by decide +kernel) rfl, fm_mem 675 (by decide +kernel) rfl, fm_mem 25 (by decide +kernel) rfl, fm_mem 51 (by decide +kernel) rfl, fm_mem 676 (by rfl) rfl⟩, ⟨TX9, 25, rfl⟩, by decide +kernel, by decide +kernel, by decide +kernel⟩
set_option maxRecDepth 100000 in
theorem cl_L_29 : fm_CV RL 29 8 yX9_frames cX9_frames 7 (some .int) 3 := ⟨⟨fm_mem 677 (by decide +kernel) rfl, fm_mem 678 (by decide +kernel) rfl, fm_mem 679 (by decide +kernel) rfl, fm_mem 51 (by decide +kernel) rfl, fm_mem 680 (by rfl) rfl⟩, ⟨TX9, 25, rfl⟩, by decide +kernel, by decide +kernel, by decide +kernel⟩
set_option maxRecDepth 100000 in
theorem cl_L_34 : fm_CV RL 34 8 yX9_at cX9_at 4 (some .int) 3 := ⟨⟨fm_mem 682 (by decide +kernel) rfl, fm_mem 683 (by decide +kernel) rfl, fm_mem 684 (by decide +kernel) rfl, fm_mem 51 (by decide +kernel) rfl, fm_mem 685 (by rfl) rfl⟩, ⟨TX9, 25, rfl⟩, by decide +kernel, by decide +kernel, by decide +kernel⟩
set_option maxRecDepth 100000 in
theorem cl_X9_91 : fm_CV RX9 91 8 yX9_isFrame cX9_isFrame 3 (some .boolean) 2 := ⟨⟨fm_mem 686 (by decide +kernel) rfl, fm_mem 688 (by decide +kernel) rfl, fm_mem 26 (by decide +kernel) rfl, fm_mem 51 (by decide +kernel) rfl, fm_mem 689 (by rfl) rfl⟩, ⟨TX9, 25, rfl⟩, by decide +kernel, by decide +kernel, by decide +kernel⟩
set_option maxRecDepth 100000 in
theorem cl_L_38 : fm_CV RL 38 8 yX9_wear cX9_wear 5 (some .int) 3 := ⟨⟨fm_mem 690 (by decide +kernel) rfl, fm_mem 691 (by decide +kernel) rfl, fm_mem 692 (by decide +kernel) rfl, fm_mem 51 (by decide +kernel) rfl, fm_mem 693 (by rfl) rfl⟩, ⟨TX9, 25, rfl⟩, by decide +kernel, by decide +kernel, by decide +kernel⟩
set_option maxRecDepth 100000 in
theorem cl_X9_98 : fm_CV RX9 98 8 yX9_keeps cX9_keeps 4 none 2 := ⟨⟨fm_mem 694 (by decide +kernel) rfl, fm_mem 696 (by decide +kernel) rfl, fm_mem 27 (by decide +kernel) rfl, fm_mem 51 (by decide +kernel) rfl, fm_mem 697 (by rfl) rfl⟩, ⟨TX9, 25, rfl⟩, by decide +kernel, by decide +kernel, by decide +kernel⟩
set_option maxRecDepth 100000 in
theorem cl_L_43 : fm_CV RL 43 8 yX9_place cX9_place 3 (some .int) 2 := ⟨⟨fm_mem 698 (by decide +kernel) rfl, fm_mem 699 (by decide +kernel) rfl, fm_mem 700 (by decide +kernel) rfl, fm_mem 51 (by decide +kernel) rfl, fm_mem 701 (by rfl) rfl⟩, ⟨TX9, 25, rfl⟩, by decide +kernel, by decide +kernel, by decide +kernel⟩
set_option maxRecDepth 100000 in
theorem cl_L_47 : fm_CV RL 47 8 yX9_noScript cX9_noScript 2 (some .int) 0 := ⟨⟨fm_mem 702 (by decide +kernel) rfl, fm_mem 703 (by decide +kernel) rfl, fm_mem 704 (by decide +kernel) rfl, fm_mem 51 (by decide +kernel) rfl, fm_mem 705 (by rfl) rfl⟩, ⟨TX9, 25, rfl⟩, by decide +kernel, by decide +kernel, by decide +kernel⟩
set_option maxRecDepth 100000 in
theorem cl_L_51 : fm_CV RL 51 8 yX9_rule cX9_rule 4 (some .int) 2 := ⟨⟨fm_mem 706 (by decide +kernel) rfl, fm_mem 707 (by decide +kernel) rfl, fm_mem 708 (by decide +kernel) rfl, fm_mem 51 (by decide +kernel) rfl, fm_mem 709 (by rfl) rfl⟩, ⟨TX9, 25, rfl⟩, by decide +kernel, by decide +kernel, by decide +kernel⟩
set_option maxRecDepth 100000 in
theorem cl_L_55 : fm_CV RL 55 8 yX9_line cX9_line 5 (some .int) 3 := ⟨⟨fm_mem 710 (by decide +kernel) rfl, fm_mem 711 (by decide +kernel) rfl, fm_mem 712 (by decide +kernel) rfl, fm_mem 51 (by decide +kernel) rfl, fm_mem 713 (by rfl) rfl⟩, ⟨TX9, 25, rfl⟩, by decide +kernel, by decide +kernel, by decide +kernel⟩
set_option maxRecDepth 100000 in
theorem cl_X9_106 : fm_CV RX9 106 8 yX9_lines cX9_lines 8 none 2 := ⟨⟨fm_mem 714 (by decide +kernel) rfl, fm_mem 716 (by decide +kernel) rfl, fm_mem 28 (by decide +kernel) rfl, fm_mem 51 (by decide +kernel) rfl, fm_mem 717 (by rfl) rfl⟩, ⟨TX9, 25, rfl⟩, by decide +kernel, by decide +kernel, by decide +kernel⟩
set_option maxRecDepth 100000 in
theorem cl_X9_102 : fm_CV RX9 102 8 yX9_pairCost cX9_pairCost 6 (some .int) 4 := ⟨⟨fm_mem 718 (by decide +kernel) rfl, fm_mem 720 (by decide +kernel) rfl, fm_mem 29 (by decide +kernel) rfl, fm_mem 51 (by decide +kernel) rfl, fm_mem 721 (by rfl) rfl⟩, ⟨TX9, 25, rfl⟩, by decide +kernel, by decide +kernel, by decide +kernel⟩
set_option maxRecDepth 100000 in
theorem cl_L_59 : fm_CV RL 59 8 yX9_stands cX9_stands 3 (some .int) 2 := ⟨⟨fm_mem 722 (by decide +kernel) rfl, fm_mem 723 (by decide +kernel) rfl, fm_mem 724 (by decide +kernel) rfl, fm_mem 51 (by decide +kernel) rfl, fm_mem 725 (by rfl) rfl⟩, ⟨TX9, 25, rfl⟩, by decide +kernel, by decide +kernel, by decide +kernel⟩
set_option maxRecDepth 100000 in
theorem cl_X9_109 : fm_CV RX9 109 8 yX9_isPlace cX9_isPlace 2 (some .boolean) 1 := ⟨⟨fm_mem 726 (by decide +kernel) rfl, fm_mem 728 (by decide +kernel) rfl, fm_mem 30 (by decide +kernel) rfl, fm_mem 51 (by decide +kernel) rfl, fm_mem 729 (by rfl) rfl⟩, ⟨TX9, 25, rfl⟩, by decide +kernel, by decide +kernel, by decide +kernel⟩
set_option maxRecDepth 100000 in
theorem cl_X9_112 : fm_CV RX9 112 8 yX9_standAll cX9_standAll 5 none 0 := ⟨⟨fm_mem 730 (by decide +kernel) rfl, fm_mem 732 (by decide +kernel) rfl, fm_mem 31 (by decide +kernel) rfl, fm_mem 51 (by decide +kernel) rfl, fm_mem 733 (by rfl) rfl⟩, ⟨TX9, 25, rfl⟩, by decide +kernel, by decide +kernel, by decide +kernel⟩
set_option maxRecDepth 100000 in
theorem cl_L_64 : fm_CV RL 64 8 yX9_whole cX9_whole 3 (some .int) 1 := ⟨⟨fm_mem 734 (by decide +kernel) rfl, fm_mem 735 (by decide +kernel) rfl, fm_mem 736 (by decide +kernel) rfl, fm_mem 51 (by decide +kernel) rfl, fm_mem 737 (by rfl) rfl⟩, ⟨TX9, 25, rfl⟩, by decide +kernel, by decide +kernel, by decide +kernel⟩
set_option maxRecDepth 100000 in
theorem cl_X9_136 : fm_CV RX9 136 8 yX9_wholes cX9_wholes 7 (some .int) 0 := ⟨⟨fm_mem 738 (by decide +kernel) rfl, fm_mem 740 (by decide +kernel) rfl, fm_mem 32 (by decide +kernel) rfl, fm_mem 51 (by decide +kernel) rfl, fm_mem 741 (by rfl) rfl⟩, ⟨TX9, 25, rfl⟩, by decide +kernel, by decide +kernel, by decide +kernel⟩
set_option maxRecDepth 100000 in
theorem cl_X9_123 : fm_CV RX9 123 8 yX9_may cX9_may 3 (some .boolean) 2 := ⟨⟨fm_mem 742 (by decide +kernel) rfl, fm_mem 744 (by decide +kernel) rfl, fm_mem 33 (by decide +kernel) rfl, fm_mem 51 (by decide +kernel) rfl, fm_mem 745 (by rfl) rfl⟩, ⟨TX9, 25, rfl⟩, by decide +kernel, by decide +kernel, by decide +kernel⟩
set_option maxRecDepth 100000 in
theorem cl_X9_130 : fm_CV RX9 130 8 yX9_own cX9_own 3 (some .int) 2 := ⟨⟨fm_mem 746 (by decide +kernel) rfl, fm_mem 748 (by decide +kernel) rfl, fm_mem 34 (by decide +kernel) rfl, fm_mem 51 (by decide +kernel) rfl, fm_mem 749 (by rfl) rfl⟩, ⟨TX9, 25, rfl⟩, by decide +kernel, by decide +kernel, by decide +kernel⟩
set_option maxRecDepth 100000 in
theorem cl_X9_119 : fm_CV RX9 119 8 yX9_worn cX9_worn 3 (some .int) 2 := ⟨⟨fm_mem 750 (by decide +kernel) rfl, fm_mem 752 (by decide +kernel) rfl, fm_mem 35 (by decide +kernel) rfl, fm_mem 51 (by decide +kernel) rfl, fm_mem 753 (by rfl) rfl⟩, ⟨TX9, 25, rfl⟩, by decide +kernel, by decide +kernel, by decide +kernel⟩
set_option maxRecDepth 100000 in
theorem cl_X9_133 : fm_CV RX9 133 8 yX9_rest cX9_rest 6 (some .int) 2 := ⟨⟨fm_mem 754 (by decide +kernel) rfl, fm_mem 756 (by decide +kernel) rfl, fm_mem 36 (by decide +kernel) rfl, fm_mem 51 (by decide +kernel) rfl, fm_mem 757 (by rfl) rfl⟩, ⟨TX9, 25, rfl⟩, by decide +kernel, by decide +kernel, by decide +kernel⟩
set_option maxRecDepth 100000 in
theorem cl_X9_126 : fm_CV RX9 126 8 yX9_between cX9_between 4 (some .int) 3 := ⟨⟨fm_mem 759 (by decide +kernel) rfl, fm_mem 761 (by decide +kernel) rfl, fm_mem 37 (by decide +kernel) rfl, fm_mem 51 (by decide +kernel) rfl, fm_mem 762 (by rfl) rfl⟩, ⟨TX9, 25, rfl⟩, by decide +kernel, by decide +kernel, by decide +kernel⟩
set_option maxRecDepth 100000 in
theorem cl_X9_115 : fm_CV RX9 115 8 yX9_view cX9_view 3 (some .int) 2 := ⟨⟨fm_mem 763 (by decide +kernel) rfl, fm_mem 765 (by decide +kernel) rfl, fm_mem 38 (by decide +kernel) rfl, fm_mem 51 (by decide +kernel) rfl, fm_mem 766 (by rfl) rfl⟩, ⟨TX9, 25, rfl⟩, by decide +kernel, by decide +kernel, by decide +kernel⟩
set_option maxRecDepth 100000 in
theorem cl_L_68 : fm_CV RL 68 8 yX9_about cX9_about 5 (some .int) 1 := ⟨⟨fm_mem 767 (by decide +kernel) rfl, fm_mem 768 (by decide +kernel) rfl, fm_mem 769 (by decide +kernel) rfl, fm_mem 51 (by decide +kernel) rfl, fm_mem 770 (by rfl) rfl⟩, ⟨TX9, 25, rfl⟩, by decide +kernel, by decide +kernel, by decide +kernel⟩
set_option maxRecDepth 100000 in
theorem cl_L_72 : fm_CV RL 72 8 yX9_mend cX9_mend 6 (some .int) 1 := ⟨⟨fm_mem 771 (by decide +kernel) rfl, fm_mem 772 (by decide +kernel) rfl, fm_mem 773 (by decide +kernel) rfl, fm_mem 51 (by decide +kernel) rfl, fm_mem 774 (by rfl) rfl⟩, ⟨TX9, 25, rfl⟩, by decide +kernel, by decide +kernel, by decide +kernel⟩
set_option maxRecDepth 100000 in
theorem cl_L_76 : fm_CV RL 76 8 yX9_note cX9_note 5 (some .int) 4 := ⟨⟨fm_mem 775 (by decide +kernel) rfl, fm_mem 776 (by decide +kernel) rfl, fm_mem 777 (by decide +kernel) rfl, fm_mem 51 (by decide +kernel) rfl, fm_mem 778 (by rfl) rfl⟩, ⟨TX9, 25, rfl⟩, by decide +kernel, by decide +kernel, by decide +kernel⟩
set_option maxRecDepth 100000 in
theorem cl_L_80 : fm_CV RL 80 8 yX9_tint cX9_tint 6 (some .int) 1 := ⟨⟨fm_mem 779 (by decide +kernel) rfl, fm_mem 780 (by decide +kernel) rfl, fm_mem 781 (by decide +kernel) rfl, fm_mem 51 (by decide +kernel) rfl, fm_mem 782 (by rfl) rfl⟩, ⟨TX9, 25, rfl⟩, by decide +kernel, by decide +kernel, by decide +kernel⟩
set_option maxRecDepth 100000 in
theorem cl_X9_143 : fm_CV RX9 143 8 yX9_tintOf cX9_tintOf 5 (some .int) 2 := ⟨⟨fm_mem 783 (by decide +kernel) rfl, fm_mem 785 (by decide +kernel) rfl, fm_mem 39 (by decide +kernel) rfl, fm_mem 51 (by decide +kernel) rfl, fm_mem 786 (by rfl) rfl⟩, ⟨TX9, 25, rfl⟩, by decide +kernel, by decide +kernel, by decide +kernel⟩
set_option maxRecDepth 100000 in
theorem cl_L_84 : fm_CV RL 84 8 yX9_cue cX9_cue 4 (some .int) 3 := ⟨⟨fm_mem 787 (by decide +kernel) rfl, fm_mem 788 (by decide +kernel) rfl, fm_mem 789 (by decide +kernel) rfl, fm_mem 51 (by decide +kernel) rfl, fm_mem 790 (by rfl) rfl⟩, ⟨TX9, 25, rfl⟩, by decide +kernel, by decide +kernel, by decide +kernel⟩
set_option maxRecDepth 100000 in
theorem cl_L_88 : fm_CV RL 88 8 yX9_noCues cX9_noCues 2 (some .int) 0 := ⟨⟨fm_mem 791 (by decide +kernel) rfl, fm_mem 792 (by decide +kernel) rfl, fm_mem 793 (by decide +kernel) rfl, fm_mem 51 (by decide +kernel) rfl, fm_mem 794 (by rfl) rfl⟩, ⟨TX9, 25, rfl⟩, by decide +kernel, by decide +kernel, by decide +kernel⟩
set_option maxRecDepth 100000 in
theorem cl_L_92 : fm_CV RL 92 8 yX9_order cX9_order 10 (some .int) 2 := ⟨⟨fm_mem 795 (by decide +kernel) rfl, fm_mem 796 (by decide +kernel) rfl, fm_mem 797 (by decide +kernel) rfl, fm_mem 51 (by decide +kernel) rfl, fm_mem 798 (by rfl) rfl⟩, ⟨TX9, 25, rfl⟩, by decide +kernel, by decide +kernel, by decide +kernel⟩
set_option maxRecDepth 100000 in
theorem cl_X9_149 : fm_CV RX9 149 8 yX9_ordered cX9_ordered 10 (some .int) 2 := ⟨⟨fm_mem 799 (by decide +kernel) rfl, fm_mem 801 (by decide +kernel) rfl, fm_mem 40 (by decide +kernel) rfl, fm_mem 51 (by decide +kernel) rfl, fm_mem 802 (by rfl) rfl⟩, ⟨TX9, 25, rfl⟩, by decide +kernel, by decide +kernel, by decide +kernel⟩
set_option maxRecDepth 100000 in
theorem cl_X9_152 : fm_CV RX9 152 8 yX9_quarrel cX9_quarrel 5 (some .int) 1 := ⟨⟨fm_mem 803 (by decide +kernel) rfl, fm_mem 805 (by decide +kernel) rfl, fm_mem 41 (by decide +kernel) rfl, fm_mem 51 (by decide +kernel) rfl, fm_mem 806 (by rfl) rfl⟩, ⟨TX9, 25, rfl⟩, by decide +kernel, by decide +kernel, by decide +kernel⟩
set_option maxRecDepth 100000 in
theorem cl_L_96 : fm_CV RL 96 8 yX9_undo cX9_undo 1 (some .int) 0 := ⟨⟨fm_mem 807 (by decide +kernel) rfl, fm_mem 808 (by decide +kernel) rfl, fm_mem 809 (by decide +kernel) rfl, fm_mem 51 (by decide +kernel) rfl, fm_mem 810 (by rfl) rfl⟩, ⟨TX9, 25, rfl⟩, by decide +kernel, by decide +kernel, by decide +kernel⟩
set_option maxRecDepth 100000 in
theorem cl_L_100 : fm_CV RL 100 8 yX9_count cX9_count 2 (some .int) 1 := ⟨⟨fm_mem 811 (by decide +kernel) rfl, fm_mem 812 (by decide +kernel) rfl, fm_mem 813 (by decide +kernel) rfl, fm_mem 51 (by decide +kernel) rfl, fm_mem 814 (by rfl) rfl⟩, ⟨TX9, 25, rfl⟩, by decide +kernel, by decide +kernel, by decide +kernel⟩
theorem ck_X7_19 : Cond.constant RX7 19 (65535) ∈ fm_T := fm_mem 298 (by decide +kernel) rfl
theorem ck_X5_94 : Cond.constant RX5 94 (1000000) ∈ fm_T := fm_mem 443 (by decide +kernel) rfl
theorem ck_X0_44 : Cond.constant RX0 44 (1000000) ∈ fm_T := fm_mem 548 (by decide +kernel) rfl
theorem ck_X9_89 : Cond.constantLong RX9 89 (65535) ∈ fm_T := fm_mem 681 (by decide +kernel) rfl
theorem ck_X9_122 : Cond.constant RX9 122 (99999) ∈ fm_T := fm_mem 758 (by decide +kernel) rfl
theorem ck_L_23 : Cond.constantLong RL 23 (4294967295) ∈ fm_T := fm_mem 815 (by decide +kernel) rfl
end
section
theorem dX0_init_0 : decode cX0_init 0 = .ok (.aload_n 0, 1) := by decide +kernel
theorem dX0_init_1 : decode cX0_init 1 = .ok (.invokespecial 3, 3) := by decide +kernel
theorem dX0_init_4 : decode cX0_init 4 = .ok (.aload_n 0, 1) := by decide +kernel
theorem dX0_init_5 : decode cX0_init 5 = .ok (.bipush 6, 2) := by decide +kernel
theorem dX0_init_7 : decode cX0_init 7 = .ok (.bipush 6, 2) := by decide +kernel
theorem dX0_init_9 : decode cX0_init 9 = .ok (.multianewarray 9 2, 4) := by decide +kernel
theorem dX0_init_13 : decode cX0_init 13 = .ok (.putfield 11, 3) := by decide +kernel
theorem dX0_init_16 : decode cX0_init 16 = .ok (.aload_n 0, 1) := by decide +kernel
theorem dX0_init_17 : decode cX0_init 17 = .ok (.bipush 64, 2) := by decide +kernel
theorem dX0_init_19 : decode cX0_init 19 = .ok (.newarray .int, 2) := by decide +kernel
theorem dX0_init_21 : decode cX0_init 21 = .ok (.putfield 16, 3) := by decide +kernel
theorem dX0_init_24 : decode cX0_init 24 = .ok (.aload_n 0, 1) := by decide +kernel
theorem dX0_init_25 : decode cX0_init 25 = .ok (.bipush 64, 2) := by decide +kernel
theorem dX0_init_27 : decode cX0_init 27 = .ok (.newarray .int, 2) := by decide +kernel
theorem dX0_init_29 : decode cX0_init 29 = .ok (.putfield 20, 3) := by decide +kernel
theorem dX0_init_32 : decode cX0_init 32 = .ok (.aload_n 0, 1) := by decide +kernel
theorem dX0_init_33 : decode cX0_init 33 = .ok (.bipush 6, 2) := by decide +kernel
theorem dX0_init_35 : decode cX0_init 35 = .ok (.newarray .int, 2) := by decide +kernel
theorem dX0_init_37 : decode cX0_init 37 = .ok (.putfield 23, 3) := by decide +kernel
theorem dX0_init_40 : decode cX0_init 40 = .ok (.return_, 1) := by decide +kernel
theorem dX0_append_0 : decode cX0_append 0 = .ok (.aload_n 0, 1) := by decide +kernel
theorem dX0_append_1 : decode cX0_append 1 = .ok (.getfield 11, 3) := by decide +kernel
theorem dX0_append_4 : decode cX0_append 4 = .ok (.iload_n 1, 1) := by decide +kernel
theorem dX0_append_5 : decode cX0_append 5 = .ok (.aaload, 1) := by decide +kernel
theorem dX0_append_6 : decode cX0_append 6 = .ok (.iload_n 2, 1) := by decide +kernel
theorem dX0_append_7 : decode cX0_append 7 = .ok (.dup2, 1) := by decide +kernel
theorem dX0_append_8 : decode cX0_append 8 = .ok (.iaload, 1) := by decide +kernel
theorem dX0_append_9 : decode cX0_append 9 = .ok (.iload_n 3, 1) := by decide +kernel
theorem dX0_append_10 : decode cX0_append 10 = .ok (.iadd, 1) := by decide +kernel
theorem dX0_append_11 : decode cX0_append 11 = .ok (.iastore, 1) := by decide +kernel
theorem dX0_append_12 : decode cX0_append 12 = .ok (.aload_n 0, 1) := by decide +kernel
theorem dX0_append_13 : decode cX0_append 13 = .ok (.dup, 1) := by decide +kernel
theorem dX0_append_14 : decode cX0_append 14 = .ok (.getfield 26, 3) := by decide +kernel
theorem dX0_append_17 : decode cX0_append 17 = .ok (.iconst 1, 1) := by decide +kernel
theorem dX0_append_18 : decode cX0_append 18 = .ok (.iadd, 1) := by decide +kernel
theorem dX0_append_19 : decode cX0_append 19 = .ok (.putfield 26, 3) := by decide +kernel
theorem dX0_append_22 : decode cX0_append 22 = .ok (.return_, 1) := by decide +kernel
theorem dX0_clear_0 : decode cX0_clear 0 = .ok (.iconst 0, 1) := by decide +kernel
theorem dX0_clear_1 : decode cX0_clear 1 = .ok (.istore_n 1, 1) := by decide +kernel
theorem dX0_clear_2 : decode cX0_clear 2 = .ok (.iload_n 1, 1) := by decide +kernel
theorem dX0_clear_3 : decode cX0_clear 3 = .ok (.bipush 6, 2) := by decide +kernel
theorem dX0_clear_5 : decode cX0_clear 5 = .ok (.if_icmp .ge 19, 3) := by decide +kernel
theorem dX0_clear_8 : decode cX0_clear 8 = .ok (.aload_n 0, 1) := by decide +kernel
theorem dX0_clear_9 : decode cX0_clear 9 = .ok (.getfield 11, 3) := by decide +kernel
theorem dX0_clear_12 : decode cX0_clear 12 = .ok (.iload_n 1, 1) := by decide +kernel
theorem dX0_clear_13 : decode cX0_clear 13 = .ok (.aaload, 1) := by decide +kernel
theorem dX0_clear_14 : decode cX0_clear 14 = .ok (.iconst 0, 1) := by decide +kernel
theorem dX0_clear_15 : decode cX0_clear 15 = .ok (.invokestatic 30, 3) := by decide +kernel
theorem dX0_clear_18 : decode cX0_clear 18 = .ok (.iinc 1 1, 3) := by decide +kernel
theorem dX0_clear_21 : decode cX0_clear 21 = .ok (.goto (-19), 3) := by decide +kernel
theorem dX0_clear_24 : decode cX0_clear 24 = .ok (.aload_n 0, 1) := by decide +kernel
theorem dX0_clear_25 : decode cX0_clear 25 = .ok (.iconst 0, 1) := by decide +kernel
theorem dX0_clear_26 : decode cX0_clear 26 = .ok (.putfield 26, 3) := by decide +kernel
theorem dX0_clear_29 : decode cX0_clear 29 = .ok (.return_, 1) := by decide +kernel
theorem dX0_quarrel_0 : decode cX0_quarrel 0 = .ok (.aload_n 0, 1) := by decide +kernel
theorem dX0_quarrel_1 : decode cX0_quarrel 1 = .ok (.getfield 16, 3) := by decide +kernel
theorem dX0_quarrel_4 : decode cX0_quarrel 4 = .ok (.iconst 0, 1) := by decide +kernel
theorem dX0_quarrel_5 : decode cX0_quarrel 5 = .ok (.iaload, 1) := by decide +kernel
theorem dX0_quarrel_6 : decode cX0_quarrel 6 = .ok (.ireturn, 1) := by decide +kernel
theorem dX0_rivals_0 : decode cX0_rivals 0 = .ok (.aload_n 0, 1) := by decide +kernel
theorem dX0_rivals_1 : decode cX0_rivals 1 = .ok (.getfield 20, 3) := by decide +kernel
theorem dX0_rivals_4 : decode cX0_rivals 4 = .ok (.iconst 0, 1) := by decide +kernel
theorem dX0_rivals_5 : decode cX0_rivals 5 = .ok (.iaload, 1) := by decide +kernel
theorem dX0_rivals_6 : decode cX0_rivals 6 = .ok (.ireturn, 1) := by decide +kernel
theorem dX0_findOrder_0 : decode cX0_findOrder 0 = .ok (.iconst 1, 1) := by decide +kernel
theorem dX0_findOrder_1 : decode cX0_findOrder 1 = .ok (.iload_n 1, 1) := by decide +kernel
theorem dX0_findOrder_2 : decode cX0_findOrder 2 = .ok (.ishl, 1) := by decide +kernel
theorem dX0_findOrder_3 : decode cX0_findOrder 3 = .ok (.iconst 1, 1) := by decide +kernel
theorem dX0_findOrder_4 : decode cX0_findOrder 4 = .ok (.isub, 1) := by decide +kernel
theorem dX0_findOrder_5 : decode cX0_findOrder 5 = .ok (.istore_n 2, 1) := by decide +kernel
theorem dX0_findOrder_6 : decode cX0_findOrder 6 = .ok (.aload_n 0, 1) := by decide +kernel
theorem dX0_findOrder_7 : decode cX0_findOrder 7 = .ok (.getfield 16, 3) := by decide +kernel
theorem dX0_findOrder_10 : decode cX0_findOrder 10 = .ok (.iload_n 2, 1) := by decide +kernel
theorem dX0_findOrder_11 : decode cX0_findOrder 11 = .ok (.iconst 0, 1) := by decide +kernel
theorem dX0_findOrder_12 : decode cX0_findOrder 12 = .ok (.iastore, 1) := by decide +kernel
theorem dX0_findOrder_13 : decode cX0_findOrder 13 = .ok (.aload_n 0, 1) := by decide +kernel
theorem dX0_findOrder_14 : decode cX0_findOrder 14 = .ok (.getfield 20, 3) := by decide +kernel
theorem dX0_findOrder_17 : decode cX0_findOrder 17 = .ok (.iload_n 2, 1) := by decide +kernel
theorem dX0_findOrder_18 : decode cX0_findOrder 18 = .ok (.iconst 1, 1) := by decide +kernel
theorem dX0_findOrder_19 : decode cX0_findOrder 19 = .ok (.iastore, 1) := by decide +kernel
theorem dX0_findOrder_20 : decode cX0_findOrder 20 = .ok (.iload_n 2, 1) := by decide +kernel
theorem dX0_findOrder_21 : decode cX0_findOrder 21 = .ok (.iconst 1, 1) := by decide +kernel
theorem dX0_findOrder_22 : decode cX0_findOrder 22 = .ok (.isub, 1) := by decide +kernel
theorem dX0_findOrder_23 : decode cX0_findOrder 23 = .ok (.istore_n 3, 1) := by decide +kernel
theorem dX0_findOrder_24 : decode cX0_findOrder 24 = .ok (.iload_n 3, 1) := by decide +kernel
theorem dX0_findOrder_25 : decode cX0_findOrder 25 = .ok (.ifCond .lt 15, 3) := by decide +kernel
theorem dX0_findOrder_28 : decode cX0_findOrder 28 = .ok (.aload_n 0, 1) := by decide +kernel
theorem dX0_findOrder_29 : decode cX0_findOrder 29 = .ok (.iload_n 1, 1) := by decide +kernel
theorem dX0_findOrder_30 : decode cX0_findOrder 30 = .ok (.iload_n 3, 1) := by decide +kernel
theorem dX0_findOrder_31 : decode cX0_findOrder 31 = .ok (.invokevirtual 36, 3) := by decide +kernel
theorem dX0_findOrder_34 : decode cX0_findOrder 34 = .ok (.iinc 3 (-1), 3) := by decide +kernel
theorem dX0_findOrder_37 : decode cX0_findOrder 37 = .ok (.goto (-13), 3) := by decide +kernel
theorem dX0_findOrder_40 : decode cX0_findOrder 40 = .ok (.iconst 0, 1) := by decide +kernel
theorem dX0_findOrder_41 : decode cX0_findOrder 41 = .ok (.istore_n 3, 1) := by decide +kernel
theorem dX0_findOrder_42 : decode cX0_findOrder 42 = .ok (.iconst 0, 1) := by decide +kernel
theorem dX0_findOrder_43 : decode cX0_findOrder 43 = .ok (.istore 4, 2) := by decide +kernel
theorem dX0_findOrder_45 : decode cX0_findOrder 45 = .ok (.iload 4, 2) := by decide +kernel
theorem dX0_findOrder_47 : decode cX0_findOrder 47 = .ok (.iload_n 1, 1) := by decide +kernel
theorem dX0_findOrder_48 : decode cX0_findOrder 48 = .ok (.if_icmp .ge 34, 3) := by decide +kernel
theorem dX0_findOrder_51 : decode cX0_findOrder 51 = .ok (.aload_n 0, 1) := by decide +kernel
theorem dX0_findOrder_52 : decode cX0_findOrder 52 = .ok (.getfield 23, 3) := by decide +kernel
theorem dX0_findOrder_55 : decode cX0_findOrder 55 = .ok (.iload 4, 2) := by decide +kernel
theorem dX0_findOrder_57 : decode cX0_findOrder 57 = .ok (.aload_n 0, 1) := by decide +kernel
theorem dX0_findOrder_58 : decode cX0_findOrder 58 = .ok (.iload_n 1, 1) := by decide +kernel
theorem dX0_findOrder_59 : decode cX0_findOrder 59 = .ok (.iload_n 3, 1) := by decide +kernel
theorem dX0_findOrder_60 : decode cX0_findOrder 60 = .ok (.invokevirtual 40, 3) := by decide +kernel
theorem dX0_findOrder_63 : decode cX0_findOrder 63 = .ok (.iastore, 1) := by decide +kernel
theorem dX0_findOrder_64 : decode cX0_findOrder 64 = .ok (.iload_n 3, 1) := by decide +kernel
theorem dX0_findOrder_65 : decode cX0_findOrder 65 = .ok (.iconst 1, 1) := by decide +kernel
theorem dX0_findOrder_66 : decode cX0_findOrder 66 = .ok (.aload_n 0, 1) := by decide +kernel
theorem dX0_findOrder_67 : decode cX0_findOrder 67 = .ok (.getfield 23, 3) := by decide +kernel
theorem dX0_findOrder_70 : decode cX0_findOrder 70 = .ok (.iload 4, 2) := by decide +kernel
theorem dX0_findOrder_72 : decode cX0_findOrder 72 = .ok (.iaload, 1) := by decide +kernel
theorem dX0_findOrder_73 : decode cX0_findOrder 73 = .ok (.ishl, 1) := by decide +kernel
theorem dX0_findOrder_74 : decode cX0_findOrder 74 = .ok (.ior, 1) := by decide +kernel
theorem dX0_findOrder_75 : decode cX0_findOrder 75 = .ok (.istore_n 3, 1) := by decide +kernel
theorem dX0_findOrder_76 : decode cX0_findOrder 76 = .ok (.iinc 4 1, 3) := by decide +kernel
theorem dX0_findOrder_79 : decode cX0_findOrder 79 = .ok (.goto (-34), 3) := by decide +kernel
theorem dX0_findOrder_82 : decode cX0_findOrder 82 = .ok (.return_, 1) := by decide +kernel
theorem dX0_weighSet_0 : decode cX0_weighSet 0 = .ok (.aload_n 0, 1) := by decide +kernel
theorem dX0_weighSet_1 : decode cX0_weighSet 1 = .ok (.getfield 16, 3) := by decide +kernel
theorem dX0_weighSet_4 : decode cX0_weighSet 4 = .ok (.iload_n 2, 1) := by decide +kernel
theorem dX0_weighSet_5 : decode cX0_weighSet 5 = .ok (.ldc 44, 2) := by decide +kernel
theorem dX0_weighSet_7 : decode cX0_weighSet 7 = .ok (.iastore, 1) := by decide +kernel
theorem dX0_weighSet_8 : decode cX0_weighSet 8 = .ok (.aload_n 0, 1) := by decide +kernel
theorem dX0_weighSet_9 : decode cX0_weighSet 9 = .ok (.getfield 20, 3) := by decide +kernel
theorem dX0_weighSet_12 : decode cX0_weighSet 12 = .ok (.iload_n 2, 1) := by decide +kernel
theorem dX0_weighSet_13 : decode cX0_weighSet 13 = .ok (.iconst 0, 1) := by decide +kernel
theorem dX0_weighSet_14 : decode cX0_weighSet 14 = .ok (.iastore, 1) := by decide +kernel
theorem dX0_weighSet_15 : decode cX0_weighSet 15 = .ok (.iconst 0, 1) := by decide +kernel
theorem dX0_weighSet_16 : decode cX0_weighSet 16 = .ok (.istore_n 3, 1) := by decide +kernel
theorem dX0_weighSet_17 : decode cX0_weighSet 17 = .ok (.iload_n 3, 1) := by decide +kernel
theorem dX0_weighSet_18 : decode cX0_weighSet 18 = .ok (.iload_n 1, 1) := by decide +kernel
theorem dX0_weighSet_19 : decode cX0_weighSet 19 = .ok (.if_icmp .ge 82, 3) := by decide +kernel
theorem dX0_weighSet_22 : decode cX0_weighSet 22 = .ok (.iload_n 2, 1) := by decide +kernel
theorem dX0_weighSet_23 : decode cX0_weighSet 23 = .ok (.iload_n 3, 1) := by decide +kernel
theorem dX0_weighSet_24 : decode cX0_weighSet 24 = .ok (.invokestatic 45, 3) := by decide +kernel
theorem dX0_weighSet_27 : decode cX0_weighSet 27 = .ok (.ifCond .ne 68, 3) := by decide +kernel
theorem dX0_weighSet_30 : decode cX0_weighSet 30 = .ok (.aload_n 0, 1) := by decide +kernel
theorem dX0_weighSet_31 : decode cX0_weighSet 31 = .ok (.iload_n 1, 1) := by decide +kernel
theorem dX0_weighSet_32 : decode cX0_weighSet 32 = .ok (.iload_n 2, 1) := by decide +kernel
theorem dX0_weighSet_33 : decode cX0_weighSet 33 = .ok (.iload_n 3, 1) := by decide +kernel
theorem dX0_weighSet_34 : decode cX0_weighSet 34 = .ok (.invokevirtual 49, 3) := by decide +kernel
theorem dX0_weighSet_37 : decode cX0_weighSet 37 = .ok (.istore 4, 2) := by decide +kernel
theorem dX0_weighSet_39 : decode cX0_weighSet 39 = .ok (.iload 4, 2) := by decide +kernel
theorem dX0_weighSet_41 : decode cX0_weighSet 41 = .ok (.aload_n 0, 1) := by decide +kernel
theorem dX0_weighSet_42 : decode cX0_weighSet 42 = .ok (.getfield 16, 3) := by decide +kernel
theorem dX0_weighSet_45 : decode cX0_weighSet 45 = .ok (.iload_n 2, 1) := by decide +kernel
theorem dX0_weighSet_46 : decode cX0_weighSet 46 = .ok (.iaload, 1) := by decide +kernel
theorem dX0_weighSet_47 : decode cX0_weighSet 47 = .ok (.if_icmp .ge 18, 3) := by decide +kernel
theorem dX0_weighSet_50 : decode cX0_weighSet 50 = .ok (.aload_n 0, 1) := by decide +kernel
theorem dX0_weighSet_51 : decode cX0_weighSet 51 = .ok (.getfield 16, 3) := by decide +kernel
theorem dX0_weighSet_54 : decode cX0_weighSet 54 = .ok (.iload_n 2, 1) := by decide +kernel
theorem dX0_weighSet_55 : decode cX0_weighSet 55 = .ok (.iload 4, 2) := by decide +kernel
theorem dX0_weighSet_57 : decode cX0_weighSet 57 = .ok (.iastore, 1) := by decide +kernel
theorem dX0_weighSet_58 : decode cX0_weighSet 58 = .ok (.aload_n 0, 1) := by decide +kernel
theorem dX0_weighSet_59 : decode cX0_weighSet 59 = .ok (.getfield 20, 3) := by decide +kernel
theorem dX0_weighSet_62 : decode cX0_weighSet 62 = .ok (.iload_n 2, 1) := by decide +kernel
theorem dX0_weighSet_63 : decode cX0_weighSet 63 = .ok (.iconst 0, 1) := by decide +kernel
theorem dX0_weighSet_64 : decode cX0_weighSet 64 = .ok (.iastore, 1) := by decide +kernel
theorem dX0_weighSet_65 : decode cX0_weighSet 65 = .ok (.iload 4, 2) := by decide +kernel
theorem dX0_weighSet_67 : decode cX0_weighSet 67 = .ok (.aload_n 0, 1) := by decide +kernel
theorem dX0_weighSet_68 : decode cX0_weighSet 68 = .ok (.getfield 16, 3) := by decide +kernel
theorem dX0_weighSet_71 : decode cX0_weighSet 71 = .ok (.iload_n 2, 1) := by decide +kernel
theorem dX0_weighSet_72 : decode cX0_weighSet 72 = .ok (.iaload, 1) := by decide +kernel
theorem dX0_weighSet_73 : decode cX0_weighSet 73 = .ok (.if_icmp .ne 22, 3) := by decide +kernel
theorem dX0_weighSet_76 : decode cX0_weighSet 76 = .ok (.aload_n 0, 1) := by decide +kernel
theorem dX0_weighSet_77 : decode cX0_weighSet 77 = .ok (.getfield 20, 3) := by decide +kernel
theorem dX0_weighSet_80 : decode cX0_weighSet 80 = .ok (.iload_n 2, 1) := by decide +kernel
theorem dX0_weighSet_81 : decode cX0_weighSet 81 = .ok (.dup2, 1) := by decide +kernel
theorem dX0_weighSet_82 : decode cX0_weighSet 82 = .ok (.iaload, 1) := by decide +kernel
theorem dX0_weighSet_83 : decode cX0_weighSet 83 = .ok (.aload_n 0, 1) := by decide +kernel
theorem dX0_weighSet_84 : decode cX0_weighSet 84 = .ok (.getfield 20, 3) := by decide +kernel
theorem dX0_weighSet_87 : decode cX0_weighSet 87 = .ok (.iload_n 2, 1) := by decide +kernel
theorem dX0_weighSet_88 : decode cX0_weighSet 88 = .ok (.iconst 1, 1) := by decide +kernel
theorem dX0_weighSet_89 : decode cX0_weighSet 89 = .ok (.iload_n 3, 1) := by decide +kernel
theorem dX0_weighSet_90 : decode cX0_weighSet 90 = .ok (.ishl, 1) := by decide +kernel
theorem dX0_weighSet_91 : decode cX0_weighSet 91 = .ok (.ior, 1) := by decide +kernel
theorem dX0_weighSet_92 : decode cX0_weighSet 92 = .ok (.iaload, 1) := by decide +kernel
theorem dX0_weighSet_93 : decode cX0_weighSet 93 = .ok (.iadd, 1) := by decide +kernel
theorem dX0_weighSet_94 : decode cX0_weighSet 94 = .ok (.iastore, 1) := by decide +kernel
theorem dX0_weighSet_95 : decode cX0_weighSet 95 = .ok (.iinc 3 1, 3) := by decide +kernel
theorem dX0_weighSet_98 : decode cX0_weighSet 98 = .ok (.goto (-81), 3) := by decide +kernel
theorem dX0_weighSet_101 : decode cX0_weighSet 101 = .ok (.return_, 1) := by decide +kernel
theorem dX0_lowestNext_0 : decode cX0_lowestNext 0 = .ok (.iconst 0, 1) := by decide +kernel
theorem dX0_lowestNext_1 : decode cX0_lowestNext 1 = .ok (.istore_n 3, 1) := by decide +kernel
theorem dX0_lowestNext_2 : decode cX0_lowestNext 2 = .ok (.iload_n 3, 1) := by decide +kernel
theorem dX0_lowestNext_3 : decode cX0_lowestNext 3 = .ok (.iload_n 1, 1) := by decide +kernel
theorem dX0_lowestNext_4 : decode cX0_lowestNext 4 = .ok (.if_icmp .ge 35, 3) := by decide +kernel
theorem dX0_lowestNext_7 : decode cX0_lowestNext 7 = .ok (.iload_n 2, 1) := by decide +kernel
theorem dX0_lowestNext_8 : decode cX0_lowestNext 8 = .ok (.iload_n 3, 1) := by decide +kernel
theorem dX0_lowestNext_9 : decode cX0_lowestNext 9 = .ok (.invokestatic 45, 3) := by decide +kernel
theorem dX0_lowestNext_12 : decode cX0_lowestNext 12 = .ok (.ifCond .ne 21, 3) := by decide +kernel
theorem dX0_lowestNext_15 : decode cX0_lowestNext 15 = .ok (.aload_n 0, 1) := by decide +kernel
theorem dX0_lowestNext_16 : decode cX0_lowestNext 16 = .ok (.iload_n 1, 1) := by decide +kernel
theorem dX0_lowestNext_17 : decode cX0_lowestNext 17 = .ok (.iload_n 2, 1) := by decide +kernel
theorem dX0_lowestNext_18 : decode cX0_lowestNext 18 = .ok (.iload_n 3, 1) := by decide +kernel
theorem dX0_lowestNext_19 : decode cX0_lowestNext 19 = .ok (.invokevirtual 49, 3) := by decide +kernel
theorem dX0_lowestNext_22 : decode cX0_lowestNext 22 = .ok (.aload_n 0, 1) := by decide +kernel
theorem dX0_lowestNext_23 : decode cX0_lowestNext 23 = .ok (.getfield 16, 3) := by decide +kernel
theorem dX0_lowestNext_26 : decode cX0_lowestNext 26 = .ok (.iload_n 2, 1) := by decide +kernel
theorem dX0_lowestNext_27 : decode cX0_lowestNext 27 = .ok (.iaload, 1) := by decide +kernel
theorem dX0_lowestNext_28 : decode cX0_lowestNext 28 = .ok (.if_icmp .ne 5, 3) := by decide +kernel
theorem dX0_lowestNext_31 : decode cX0_lowestNext 31 = .ok (.iload_n 3, 1) := by decide +kernel
theorem dX0_lowestNext_32 : decode cX0_lowestNext 32 = .ok (.ireturn, 1) := by decide +kernel
theorem dX0_lowestNext_33 : decode cX0_lowestNext 33 = .ok (.iinc 3 1, 3) := by decide +kernel
theorem dX0_lowestNext_36 : decode cX0_lowestNext 36 = .ok (.goto (-34), 3) := by decide +kernel
theorem dX0_lowestNext_39 : decode cX0_lowestNext 39 = .ok (.iconst 0, 1) := by decide +kernel
theorem dX0_lowestNext_40 : decode cX0_lowestNext 40 = .ok (.ireturn, 1) := by decide +kernel
theorem dX0_quarrelWith_0 : decode cX0_quarrelWith 0 = .ok (.aload_n 0, 1) := by decide +kernel
theorem dX0_quarrelWith_1 : decode cX0_quarrelWith 1 = .ok (.getfield 16, 3) := by decide +kernel
theorem dX0_quarrelWith_4 : decode cX0_quarrelWith 4 = .ok (.iload_n 2, 1) := by decide +kernel
theorem dX0_quarrelWith_5 : decode cX0_quarrelWith 5 = .ok (.iconst 1, 1) := by decide +kernel
theorem dX0_quarrelWith_6 : decode cX0_quarrelWith 6 = .ok (.iload_n 3, 1) := by decide +kernel
theorem dX0_quarrelWith_7 : decode cX0_quarrelWith 7 = .ok (.ishl, 1) := by decide +kernel
theorem dX0_quarrelWith_8 : decode cX0_quarrelWith 8 = .ok (.ior, 1) := by decide +kernel
theorem dX0_quarrelWith_9 : decode cX0_quarrelWith 9 = .ok (.iaload, 1) := by decide +kernel
theorem dX0_quarrelWith_10 : decode cX0_quarrelWith 10 = .ok (.istore 4, 2) := by decide +kernel
theorem dX0_quarrelWith_12 : decode cX0_quarrelWith 12 = .ok (.iconst 0, 1) := by decide +kernel
theorem dX0_quarrelWith_13 : decode cX0_quarrelWith 13 = .ok (.istore 5, 2) := by decide +kernel
theorem dX0_quarrelWith_15 : decode cX0_quarrelWith 15 = .ok (.iload 5, 2) := by decide +kernel
theorem dX0_quarrelWith_17 : decode cX0_quarrelWith 17 = .ok (.iload_n 1, 1) := by decide +kernel
theorem dX0_quarrelWith_18 : decode cX0_quarrelWith 18 = .ok (.if_icmp .ge 32, 3) := by decide +kernel
theorem dX0_quarrelWith_21 : decode cX0_quarrelWith 21 = .ok (.iload_n 2, 1) := by decide +kernel
theorem dX0_quarrelWith_22 : decode cX0_quarrelWith 22 = .ok (.iload 5, 2) := by decide +kernel
theorem dX0_quarrelWith_24 : decode cX0_quarrelWith 24 = .ok (.invokestatic 45, 3) := by decide +kernel
theorem dX0_quarrelWith_27 : decode cX0_quarrelWith 27 = .ok (.ifCond .eq 17, 3) := by decide +kernel
theorem dX0_quarrelWith_30 : decode cX0_quarrelWith 30 = .ok (.iload 4, 2) := by decide +kernel
theorem dX0_quarrelWith_32 : decode cX0_quarrelWith 32 = .ok (.aload_n 0, 1) := by decide +kernel
theorem dX0_quarrelWith_33 : decode cX0_quarrelWith 33 = .ok (.getfield 11, 3) := by decide +kernel
theorem dX0_quarrelWith_36 : decode cX0_quarrelWith 36 = .ok (.iload_n 3, 1) := by decide +kernel
theorem dX0_quarrelWith_37 : decode cX0_quarrelWith 37 = .ok (.aaload, 1) := by decide +kernel
theorem dX0_quarrelWith_38 : decode cX0_quarrelWith 38 = .ok (.iload 5, 2) := by decide +kernel
theorem dX0_quarrelWith_40 : decode cX0_quarrelWith 40 = .ok (.iaload, 1) := by decide +kernel
theorem dX0_quarrelWith_41 : decode cX0_quarrelWith 41 = .ok (.iadd, 1) := by decide +kernel
theorem dX0_quarrelWith_42 : decode cX0_quarrelWith 42 = .ok (.istore 4, 2) := by decide +kernel
theorem dX0_quarrelWith_44 : decode cX0_quarrelWith 44 = .ok (.iinc 5 1, 3) := by decide +kernel
theorem dX0_quarrelWith_47 : decode cX0_quarrelWith 47 = .ok (.goto (-32), 3) := by decide +kernel
theorem dX0_quarrelWith_50 : decode cX0_quarrelWith 50 = .ok (.iload 4, 2) := by decide +kernel
theorem dX0_quarrelWith_52 : decode cX0_quarrelWith 52 = .ok (.ireturn, 1) := by decide +kernel
theorem dX0_isIn_0 : decode cX0_isIn 0 = .ok (.iload_n 0, 1) := by decide +kernel
theorem dX0_isIn_1 : decode cX0_isIn 1 = .ok (.iload_n 1, 1) := by decide +kernel
theorem dX0_isIn_2 : decode cX0_isIn 2 = .ok (.ishr, 1) := by decide +kernel
theorem dX0_isIn_3 : decode cX0_isIn 3 = .ok (.iconst 1, 1) := by decide +kernel
theorem dX0_isIn_4 : decode cX0_isIn 4 = .ok (.iand, 1) := by decide +kernel
theorem dX0_isIn_5 : decode cX0_isIn 5 = .ok (.ifCond .eq 7, 3) := by decide +kernel
theorem dX0_isIn_8 : decode cX0_isIn 8 = .ok (.iconst 1, 1) := by decide +kernel
theorem dX0_isIn_9 : decode cX0_isIn 9 = .ok (.goto 4, 3) := by decide +kernel
theorem dX0_isIn_12 : decode cX0_isIn 12 = .ok (.iconst 0, 1) := by decide +kernel
theorem dX0_isIn_13 : decode cX0_isIn 13 = .ok (.ireturn, 1) := by decide +kernel
theorem dX1_init_0 : decode cX1_init 0 = .ok (.aload_n 0, 1) := by decide +kernel
theorem dX1_init_1 : decode cX1_init 1 = .ok (.invokespecial 3, 3) := by decide +kernel
theorem dX1_init_4 : decode cX1_init 4 = .ok (.aload_n 0, 1) := by decide +kernel
theorem dX1_init_5 : decode cX1_init 5 = .ok (.bipush 41, 2) := by decide +kernel
theorem dX1_init_7 : decode cX1_init 7 = .ok (.bipush 41, 2) := by decide +kernel
theorem dX1_init_9 : decode cX1_init 9 = .ok (.multianewarray 9 2, 4) := by decide +kernel
theorem dX1_init_13 : decode cX1_init 13 = .ok (.putfield 11, 3) := by decide +kernel
theorem dX1_init_16 : decode cX1_init 16 = .ok (.aload_n 0, 1) := by decide +kernel
theorem dX1_init_17 : decode cX1_init 17 = .ok (.bipush 40, 2) := by decide +kernel
theorem dX1_init_19 : decode cX1_init 19 = .ok (.newarray .int, 2) := by decide +kernel
theorem dX1_init_21 : decode cX1_init 21 = .ok (.putfield 16, 3) := by decide +kernel
theorem dX1_init_24 : decode cX1_init 24 = .ok (.return_, 1) := by decide +kernel
theorem dX1_cost_0 : decode cX1_cost 0 = .ok (.aload_n 0, 1) := by decide +kernel
theorem dX1_cost_1 : decode cX1_cost 1 = .ok (.getfield 11, 3) := by decide +kernel
theorem dX1_cost_4 : decode cX1_cost 4 = .ok (.iconst 0, 1) := by decide +kernel
theorem dX1_cost_5 : decode cX1_cost 5 = .ok (.aaload, 1) := by decide +kernel
theorem dX1_cost_6 : decode cX1_cost 6 = .ok (.iconst 0, 1) := by decide +kernel
theorem dX1_cost_7 : decode cX1_cost 7 = .ok (.iaload, 1) := by decide +kernel
theorem dX1_cost_8 : decode cX1_cost 8 = .ok (.ireturn, 1) := by decide +kernel
theorem dX1_lineUp_0 : decode cX1_lineUp 0 = .ok (.aload_n 0, 1) := by decide +kernel
theorem dX1_lineUp_1 : decode cX1_lineUp 1 = .ok (.aload_n 1, 1) := by decide +kernel
theorem dX1_lineUp_2 : decode cX1_lineUp 2 = .ok (.iload_n 2, 1) := by decide +kernel
theorem dX1_lineUp_3 : decode cX1_lineUp 3 = .ok (.aload_n 3, 1) := by decide +kernel
theorem dX1_lineUp_4 : decode cX1_lineUp 4 = .ok (.iload 4, 2) := by decide +kernel
theorem dX1_lineUp_6 : decode cX1_lineUp 6 = .ok (.invokevirtual 20, 3) := by decide +kernel
theorem dX1_lineUp_9 : decode cX1_lineUp 9 = .ok (.iconst 0, 1) := by decide +kernel
theorem dX1_lineUp_10 : decode cX1_lineUp 10 = .ok (.istore 5, 2) := by decide +kernel
theorem dX1_lineUp_12 : decode cX1_lineUp 12 = .ok (.iconst 0, 1) := by decide +kernel
theorem dX1_lineUp_13 : decode cX1_lineUp 13 = .ok (.istore 6, 2) := by decide +kernel
theorem dX1_lineUp_15 : decode cX1_lineUp 15 = .ok (.iload 6, 2) := by decide +kernel
theorem dX1_lineUp_17 : decode cX1_lineUp 17 = .ok (.iload_n 2, 1) := by decide +kernel
theorem dX1_lineUp_18 : decode cX1_lineUp 18 = .ok (.if_icmp .ge 87, 3) := by decide +kernel
theorem dX1_lineUp_21 : decode cX1_lineUp 21 = .ok (.iload 5, 2) := by decide +kernel
theorem dX1_lineUp_23 : decode cX1_lineUp 23 = .ok (.iload 4, 2) := by decide +kernel
theorem dX1_lineUp_25 : decode cX1_lineUp 25 = .ok (.if_icmp .ge 33, 3) := by decide +kernel
theorem dX1_lineUp_28 : decode cX1_lineUp 28 = .ok (.aload_n 0, 1) := by decide +kernel
theorem dX1_lineUp_29 : decode cX1_lineUp 29 = .ok (.aload_n 1, 1) := by decide +kernel
theorem dX1_lineUp_30 : decode cX1_lineUp 30 = .ok (.iload 6, 2) := by decide +kernel
theorem dX1_lineUp_32 : decode cX1_lineUp 32 = .ok (.aload_n 3, 1) := by decide +kernel
theorem dX1_lineUp_33 : decode cX1_lineUp 33 = .ok (.iload 5, 2) := by decide +kernel
theorem dX1_lineUp_35 : decode cX1_lineUp 35 = .ok (.invokevirtual 24, 3) := by decide +kernel
theorem dX1_lineUp_38 : decode cX1_lineUp 38 = .ok (.ifCond .ne 20, 3) := by decide +kernel
theorem dX1_lineUp_41 : decode cX1_lineUp 41 = .ok (.aload_n 0, 1) := by decide +kernel
theorem dX1_lineUp_42 : decode cX1_lineUp 42 = .ok (.iload 6, 2) := by decide +kernel
theorem dX1_lineUp_44 : decode cX1_lineUp 44 = .ok (.iload 5, 2) := by decide +kernel
theorem dX1_lineUp_46 : decode cX1_lineUp 46 = .ok (.invokevirtual 28, 3) := by decide +kernel
theorem dX1_lineUp_49 : decode cX1_lineUp 49 = .ok (.ifCond .eq 9, 3) := by decide +kernel
theorem dX1_lineUp_52 : decode cX1_lineUp 52 = .ok (.iinc 5 1, 3) := by decide +kernel
theorem dX1_lineUp_55 : decode cX1_lineUp 55 = .ok (.goto (-34), 3) := by decide +kernel
theorem dX1_lineUp_58 : decode cX1_lineUp 58 = .ok (.aload_n 0, 1) := by decide +kernel
theorem dX1_lineUp_59 : decode cX1_lineUp 59 = .ok (.getfield 16, 3) := by decide +kernel
theorem dX1_lineUp_62 : decode cX1_lineUp 62 = .ok (.iload 6, 2) := by decide +kernel
theorem dX1_lineUp_64 : decode cX1_lineUp 64 = .ok (.bipush (-4), 2) := by decide +kernel
theorem dX1_lineUp_66 : decode cX1_lineUp 66 = .ok (.iastore, 1) := by decide +kernel
theorem dX1_lineUp_67 : decode cX1_lineUp 67 = .ok (.iload 5, 2) := by decide +kernel
theorem dX1_lineUp_69 : decode cX1_lineUp 69 = .ok (.iload 4, 2) := by decide +kernel
theorem dX1_lineUp_71 : decode cX1_lineUp 71 = .ok (.if_icmp .ge 28, 3) := by decide +kernel
theorem dX1_lineUp_74 : decode cX1_lineUp 74 = .ok (.aload_n 0, 1) := by decide +kernel
theorem dX1_lineUp_75 : decode cX1_lineUp 75 = .ok (.aload_n 1, 1) := by decide +kernel
theorem dX1_lineUp_76 : decode cX1_lineUp 76 = .ok (.iload 6, 2) := by decide +kernel
theorem dX1_lineUp_78 : decode cX1_lineUp 78 = .ok (.aload_n 3, 1) := by decide +kernel
theorem dX1_lineUp_79 : decode cX1_lineUp 79 = .ok (.iload 5, 2) := by decide +kernel
theorem dX1_lineUp_81 : decode cX1_lineUp 81 = .ok (.invokevirtual 24, 3) := by decide +kernel
theorem dX1_lineUp_84 : decode cX1_lineUp 84 = .ok (.ifCond .eq 15, 3) := by decide +kernel
theorem dX1_lineUp_87 : decode cX1_lineUp 87 = .ok (.aload_n 0, 1) := by decide +kernel
theorem dX1_lineUp_88 : decode cX1_lineUp 88 = .ok (.getfield 16, 3) := by decide +kernel
theorem dX1_lineUp_91 : decode cX1_lineUp 91 = .ok (.iload 6, 2) := by decide +kernel
theorem dX1_lineUp_93 : decode cX1_lineUp 93 = .ok (.iload 5, 2) := by decide +kernel
theorem dX1_lineUp_95 : decode cX1_lineUp 95 = .ok (.iastore, 1) := by decide +kernel
theorem dX1_lineUp_96 : decode cX1_lineUp 96 = .ok (.iinc 5 1, 3) := by decide +kernel
theorem dX1_lineUp_99 : decode cX1_lineUp 99 = .ok (.iinc 6 1, 3) := by decide +kernel
theorem dX1_lineUp_102 : decode cX1_lineUp 102 = .ok (.goto (-87), 3) := by decide +kernel
theorem dX1_lineUp_105 : decode cX1_lineUp 105 = .ok (.return_, 1) := by decide +kernel
theorem dX1_fillLeast_0 : decode cX1_fillLeast 0 = .ok (.iconst 0, 1) := by decide +kernel
theorem dX1_fillLeast_1 : decode cX1_fillLeast 1 = .ok (.istore 5, 2) := by decide +kernel
theorem dX1_fillLeast_3 : decode cX1_fillLeast 3 = .ok (.iload 5, 2) := by decide +kernel
theorem dX1_fillLeast_5 : decode cX1_fillLeast 5 = .ok (.iload 4, 2) := by decide +kernel
theorem dX1_fillLeast_7 : decode cX1_fillLeast 7 = .ok (.if_icmp .gt 25, 3) := by decide +kernel
theorem dX1_fillLeast_10 : decode cX1_fillLeast 10 = .ok (.aload_n 0, 1) := by decide +kernel
theorem dX1_fillLeast_11 : decode cX1_fillLeast 11 = .ok (.getfield 11, 3) := by decide +kernel
theorem dX1_fillLeast_14 : decode cX1_fillLeast 14 = .ok (.iload_n 2, 1) := by decide +kernel
theorem dX1_fillLeast_15 : decode cX1_fillLeast 15 = .ok (.aaload, 1) := by decide +kernel
theorem dX1_fillLeast_16 : decode cX1_fillLeast 16 = .ok (.iload 5, 2) := by decide +kernel
theorem dX1_fillLeast_18 : decode cX1_fillLeast 18 = .ok (.iconst 3, 1) := by decide +kernel
theorem dX1_fillLeast_19 : decode cX1_fillLeast 19 = .ok (.iload 4, 2) := by decide +kernel
theorem dX1_fillLeast_21 : decode cX1_fillLeast 21 = .ok (.iload 5, 2) := by decide +kernel
theorem dX1_fillLeast_23 : decode cX1_fillLeast 23 = .ok (.isub, 1) := by decide +kernel
theorem dX1_fillLeast_24 : decode cX1_fillLeast 24 = .ok (.imul, 1) := by decide +kernel
theorem dX1_fillLeast_25 : decode cX1_fillLeast 25 = .ok (.iastore, 1) := by decide +kernel
theorem dX1_fillLeast_26 : decode cX1_fillLeast 26 = .ok (.iinc 5 1, 3) := by decide +kernel
theorem dX1_fillLeast_29 : decode cX1_fillLeast 29 = .ok (.goto (-26), 3) := by decide +kernel
theorem dX1_fillLeast_32 : decode cX1_fillLeast 32 = .ok (.iload_n 2, 1) := by decide +kernel
theorem dX1_fillLeast_33 : decode cX1_fillLeast 33 = .ok (.iconst 1, 1) := by decide +kernel
theorem dX1_fillLeast_34 : decode cX1_fillLeast 34 = .ok (.isub, 1) := by decide +kernel
theorem dX1_fillLeast_35 : decode cX1_fillLeast 35 = .ok (.istore 5, 2) := by decide +kernel
theorem dX1_fillLeast_37 : decode cX1_fillLeast 37 = .ok (.iload 5, 2) := by decide +kernel
theorem dX1_fillLeast_39 : decode cX1_fillLeast 39 = .ok (.ifCond .lt 105, 3) := by decide +kernel
theorem dX1_fillLeast_42 : decode cX1_fillLeast 42 = .ok (.aload_n 0, 1) := by decide +kernel
theorem dX1_fillLeast_43 : decode cX1_fillLeast 43 = .ok (.getfield 11, 3) := by decide +kernel
theorem dX1_fillLeast_46 : decode cX1_fillLeast 46 = .ok (.iload 5, 2) := by decide +kernel
theorem dX1_fillLeast_48 : decode cX1_fillLeast 48 = .ok (.aaload, 1) := by decide +kernel
theorem dX1_fillLeast_49 : decode cX1_fillLeast 49 = .ok (.astore 6, 2) := by decide +kernel
theorem dX1_fillLeast_51 : decode cX1_fillLeast 51 = .ok (.aload_n 0, 1) := by decide +kernel
theorem dX1_fillLeast_52 : decode cX1_fillLeast 52 = .ok (.getfield 11, 3) := by decide +kernel
theorem dX1_fillLeast_55 : decode cX1_fillLeast 55 = .ok (.iload 5, 2) := by decide +kernel
theorem dX1_fillLeast_57 : decode cX1_fillLeast 57 = .ok (.iconst 1, 1) := by decide +kernel
theorem dX1_fillLeast_58 : decode cX1_fillLeast 58 = .ok (.iadd, 1) := by decide +kernel
theorem dX1_fillLeast_59 : decode cX1_fillLeast 59 = .ok (.aaload, 1) := by decide +kernel
theorem dX1_fillLeast_60 : decode cX1_fillLeast 60 = .ok (.astore 7, 2) := by decide +kernel
theorem dX1_fillLeast_62 : decode cX1_fillLeast 62 = .ok (.aload 6, 2) := by decide +kernel
theorem dX1_fillLeast_64 : decode cX1_fillLeast 64 = .ok (.iload 4, 2) := by decide +kernel
theorem dX1_fillLeast_66 : decode cX1_fillLeast 66 = .ok (.iconst 3, 1) := by decide +kernel
theorem dX1_fillLeast_67 : decode cX1_fillLeast 67 = .ok (.iload_n 2, 1) := by decide +kernel
theorem dX1_fillLeast_68 : decode cX1_fillLeast 68 = .ok (.iload 5, 2) := by decide +kernel
theorem dX1_fillLeast_70 : decode cX1_fillLeast 70 = .ok (.isub, 1) := by decide +kernel
theorem dX1_fillLeast_71 : decode cX1_fillLeast 71 = .ok (.imul, 1) := by decide +kernel
theorem dX1_fillLeast_72 : decode cX1_fillLeast 72 = .ok (.iastore, 1) := by decide +kernel
theorem dX1_fillLeast_73 : decode cX1_fillLeast 73 = .ok (.iload 4, 2) := by decide +kernel
theorem dX1_fillLeast_75 : decode cX1_fillLeast 75 = .ok (.iconst 1, 1) := by decide +kernel
theorem dX1_fillLeast_76 : decode cX1_fillLeast 76 = .ok (.isub, 1) := by decide +kernel
theorem dX1_fillLeast_77 : decode cX1_fillLeast 77 = .ok (.istore 8, 2) := by decide +kernel
theorem dX1_fillLeast_79 : decode cX1_fillLeast 79 = .ok (.iload 8, 2) := by decide +kernel
theorem dX1_fillLeast_81 : decode cX1_fillLeast 81 = .ok (.ifCond .lt 57, 3) := by decide +kernel
theorem dX1_fillLeast_84 : decode cX1_fillLeast 84 = .ok (.iconst 3, 1) := by decide +kernel
theorem dX1_fillLeast_85 : decode cX1_fillLeast 85 = .ok (.aload 6, 2) := by decide +kernel
theorem dX1_fillLeast_87 : decode cX1_fillLeast 87 = .ok (.iload 8, 2) := by decide +kernel
theorem dX1_fillLeast_89 : decode cX1_fillLeast 89 = .ok (.iconst 1, 1) := by decide +kernel
theorem dX1_fillLeast_90 : decode cX1_fillLeast 90 = .ok (.iadd, 1) := by decide +kernel
theorem dX1_fillLeast_91 : decode cX1_fillLeast 91 = .ok (.iaload, 1) := by decide +kernel
theorem dX1_fillLeast_92 : decode cX1_fillLeast 92 = .ok (.aload 7, 2) := by decide +kernel
theorem dX1_fillLeast_94 : decode cX1_fillLeast 94 = .ok (.iload 8, 2) := by decide +kernel
theorem dX1_fillLeast_96 : decode cX1_fillLeast 96 = .ok (.iaload, 1) := by decide +kernel
theorem dX1_fillLeast_97 : decode cX1_fillLeast 97 = .ok (.invokestatic 32, 3) := by decide +kernel
theorem dX1_fillLeast_100 : decode cX1_fillLeast 100 = .ok (.iadd, 1) := by decide +kernel
theorem dX1_fillLeast_101 : decode cX1_fillLeast 101 = .ok (.istore 9, 2) := by decide +kernel
theorem dX1_fillLeast_103 : decode cX1_fillLeast 103 = .ok (.aload 6, 2) := by decide +kernel
theorem dX1_fillLeast_105 : decode cX1_fillLeast 105 = .ok (.iload 8, 2) := by decide +kernel
theorem dX1_fillLeast_107 : decode cX1_fillLeast 107 = .ok (.iload 9, 2) := by decide +kernel
theorem dX1_fillLeast_109 : decode cX1_fillLeast 109 = .ok (.aload_n 1, 1) := by decide +kernel
theorem dX1_fillLeast_110 : decode cX1_fillLeast 110 = .ok (.iload 5, 2) := by decide +kernel
theorem dX1_fillLeast_112 : decode cX1_fillLeast 112 = .ok (.iaload, 1) := by decide +kernel
theorem dX1_fillLeast_113 : decode cX1_fillLeast 113 = .ok (.aload_n 3, 1) := by decide +kernel
theorem dX1_fillLeast_114 : decode cX1_fillLeast 114 = .ok (.iload 8, 2) := by decide +kernel
theorem dX1_fillLeast_116 : decode cX1_fillLeast 116 = .ok (.iaload, 1) := by decide +kernel
theorem dX1_fillLeast_117 : decode cX1_fillLeast 117 = .ok (.invokestatic 38, 3) := by decide +kernel
theorem dX1_fillLeast_120 : decode cX1_fillLeast 120 = .ok (.aload 7, 2) := by decide +kernel
theorem dX1_fillLeast_122 : decode cX1_fillLeast 122 = .ok (.iload 8, 2) := by decide +kernel
theorem dX1_fillLeast_124 : decode cX1_fillLeast 124 = .ok (.iconst 1, 1) := by decide +kernel
theorem dX1_fillLeast_125 : decode cX1_fillLeast 125 = .ok (.iadd, 1) := by decide +kernel
theorem dX1_fillLeast_126 : decode cX1_fillLeast 126 = .ok (.iaload, 1) := by decide +kernel
theorem dX1_fillLeast_127 : decode cX1_fillLeast 127 = .ok (.iadd, 1) := by decide +kernel
theorem dX1_fillLeast_128 : decode cX1_fillLeast 128 = .ok (.invokestatic 32, 3) := by decide +kernel
theorem dX1_fillLeast_131 : decode cX1_fillLeast 131 = .ok (.iastore, 1) := by decide +kernel
theorem dX1_fillLeast_132 : decode cX1_fillLeast 132 = .ok (.iinc 8 (-1), 3) := by decide +kernel
theorem dX1_fillLeast_135 : decode cX1_fillLeast 135 = .ok (.goto (-56), 3) := by decide +kernel
theorem dX1_fillLeast_138 : decode cX1_fillLeast 138 = .ok (.iinc 5 (-1), 3) := by decide +kernel
theorem dX1_fillLeast_141 : decode cX1_fillLeast 141 = .ok (.goto (-104), 3) := by decide +kernel
theorem dX1_fillLeast_144 : decode cX1_fillLeast 144 = .ok (.return_, 1) := by decide +kernel
theorem dX1_canPair_0 : decode cX1_canPair 0 = .ok (.aload_n 0, 1) := by decide +kernel
theorem dX1_canPair_1 : decode cX1_canPair 1 = .ok (.getfield 11, 3) := by decide +kernel
theorem dX1_canPair_4 : decode cX1_canPair 4 = .ok (.iload_n 2, 1) := by decide +kernel
theorem dX1_canPair_5 : decode cX1_canPair 5 = .ok (.aaload, 1) := by decide +kernel
theorem dX1_canPair_6 : decode cX1_canPair 6 = .ok (.iload 4, 2) := by decide +kernel
theorem dX1_canPair_8 : decode cX1_canPair 8 = .ok (.iaload, 1) := by decide +kernel
theorem dX1_canPair_9 : decode cX1_canPair 9 = .ok (.aload_n 1, 1) := by decide +kernel
theorem dX1_canPair_10 : decode cX1_canPair 10 = .ok (.iload_n 2, 1) := by decide +kernel
theorem dX1_canPair_11 : decode cX1_canPair 11 = .ok (.iaload, 1) := by decide +kernel
theorem dX1_canPair_12 : decode cX1_canPair 12 = .ok (.aload_n 3, 1) := by decide +kernel
theorem dX1_canPair_13 : decode cX1_canPair 13 = .ok (.iload 4, 2) := by decide +kernel
theorem dX1_canPair_15 : decode cX1_canPair 15 = .ok (.iaload, 1) := by decide +kernel
theorem dX1_canPair_16 : decode cX1_canPair 16 = .ok (.invokestatic 38, 3) := by decide +kernel
theorem dX1_canPair_19 : decode cX1_canPair 19 = .ok (.aload_n 0, 1) := by decide +kernel
theorem dX1_canPair_20 : decode cX1_canPair 20 = .ok (.getfield 11, 3) := by decide +kernel
theorem dX1_canPair_23 : decode cX1_canPair 23 = .ok (.iload_n 2, 1) := by decide +kernel
theorem dX1_canPair_24 : decode cX1_canPair 24 = .ok (.iconst 1, 1) := by decide +kernel
theorem dX1_canPair_25 : decode cX1_canPair 25 = .ok (.iadd, 1) := by decide +kernel
theorem dX1_canPair_26 : decode cX1_canPair 26 = .ok (.aaload, 1) := by decide +kernel
theorem dX1_canPair_27 : decode cX1_canPair 27 = .ok (.iload 4, 2) := by decide +kernel
theorem dX1_canPair_29 : decode cX1_canPair 29 = .ok (.iconst 1, 1) := by decide +kernel
theorem dX1_canPair_30 : decode cX1_canPair 30 = .ok (.iadd, 1) := by decide +kernel
theorem dX1_canPair_31 : decode cX1_canPair 31 = .ok (.iaload, 1) := by decide +kernel
theorem dX1_canPair_32 : decode cX1_canPair 32 = .ok (.iadd, 1) := by decide +kernel
theorem dX1_canPair_33 : decode cX1_canPair 33 = .ok (.if_icmp .ne 7, 3) := by decide +kernel
theorem dX1_canPair_36 : decode cX1_canPair 36 = .ok (.iconst 1, 1) := by decide +kernel
theorem dX1_canPair_37 : decode cX1_canPair 37 = .ok (.goto 4, 3) := by decide +kernel
theorem dX1_canPair_40 : decode cX1_canPair 40 = .ok (.iconst 0, 1) := by decide +kernel
theorem dX1_canPair_41 : decode cX1_canPair 41 = .ok (.ireturn, 1) := by decide +kernel
theorem dX1_canLeaveSecond_0 : decode cX1_canLeaveSecond 0 = .ok (.aload_n 0, 1) := by decide +kernel
theorem dX1_canLeaveSecond_1 : decode cX1_canLeaveSecond 1 = .ok (.getfield 11, 3) := by decide +kernel
theorem dX1_canLeaveSecond_4 : decode cX1_canLeaveSecond 4 = .ok (.iload_n 1, 1) := by decide +kernel
theorem dX1_canLeaveSecond_5 : decode cX1_canLeaveSecond 5 = .ok (.aaload, 1) := by decide +kernel
theorem dX1_canLeaveSecond_6 : decode cX1_canLeaveSecond 6 = .ok (.iload_n 2, 1) := by decide +kernel
theorem dX1_canLeaveSecond_7 : decode cX1_canLeaveSecond 7 = .ok (.iaload, 1) := by decide +kernel
theorem dX1_canLeaveSecond_8 : decode cX1_canLeaveSecond 8 = .ok (.iconst 3, 1) := by decide +kernel
theorem dX1_canLeaveSecond_9 : decode cX1_canLeaveSecond 9 = .ok (.aload_n 0, 1) := by decide +kernel
theorem dX1_canLeaveSecond_10 : decode cX1_canLeaveSecond 10 = .ok (.getfield 11, 3) := by decide +kernel
theorem dX1_canLeaveSecond_13 : decode cX1_canLeaveSecond 13 = .ok (.iload_n 1, 1) := by decide +kernel
theorem dX1_canLeaveSecond_14 : decode cX1_canLeaveSecond 14 = .ok (.aaload, 1) := by decide +kernel
theorem dX1_canLeaveSecond_15 : decode cX1_canLeaveSecond 15 = .ok (.iload_n 2, 1) := by decide +kernel
theorem dX1_canLeaveSecond_16 : decode cX1_canLeaveSecond 16 = .ok (.iconst 1, 1) := by decide +kernel
theorem dX1_canLeaveSecond_17 : decode cX1_canLeaveSecond 17 = .ok (.iadd, 1) := by decide +kernel
theorem dX1_canLeaveSecond_18 : decode cX1_canLeaveSecond 18 = .ok (.iaload, 1) := by decide +kernel
theorem dX1_canLeaveSecond_19 : decode cX1_canLeaveSecond 19 = .ok (.iadd, 1) := by decide +kernel
theorem dX1_canLeaveSecond_20 : decode cX1_canLeaveSecond 20 = .ok (.if_icmp .ne 7, 3) := by decide +kernel
theorem dX1_canLeaveSecond_23 : decode cX1_canLeaveSecond 23 = .ok (.iconst 1, 1) := by decide +kernel
theorem dX1_canLeaveSecond_24 : decode cX1_canLeaveSecond 24 = .ok (.goto 4, 3) := by decide +kernel
theorem dX1_canLeaveSecond_27 : decode cX1_canLeaveSecond 27 = .ok (.iconst 0, 1) := by decide +kernel
theorem dX1_canLeaveSecond_28 : decode cX1_canLeaveSecond 28 = .ok (.ireturn, 1) := by decide +kernel
theorem dX1_pairCost_0 : decode cX1_pairCost 0 = .ok (.iconst 5, 1) := by decide +kernel
theorem dX1_pairCost_1 : decode cX1_pairCost 1 = .ok (.iload_n 0, 1) := by decide +kernel
theorem dX1_pairCost_2 : decode cX1_pairCost 2 = .ok (.iload_n 1, 1) := by decide +kernel
theorem dX1_pairCost_3 : decode cX1_pairCost 3 = .ok (.isub, 1) := by decide +kernel
theorem dX1_pairCost_4 : decode cX1_pairCost 4 = .ok (.invokestatic 41, 3) := by decide +kernel
theorem dX1_pairCost_7 : decode cX1_pairCost 7 = .ok (.invokestatic 32, 3) := by decide +kernel
theorem dX1_pairCost_10 : decode cX1_pairCost 10 = .ok (.ireturn, 1) := by decide +kernel
theorem dX2_init_0 : decode cX2_init 0 = .ok (.aload_n 0, 1) := by decide +kernel
theorem dX2_init_1 : decode cX2_init 1 = .ok (.invokespecial 3, 3) := by decide +kernel
theorem dX2_init_4 : decode cX2_init 4 = .ok (.aload_n 0, 1) := by decide +kernel
theorem dX2_init_5 : decode cX2_init 5 = .ok (.bipush 12, 2) := by decide +kernel
theorem dX2_init_7 : decode cX2_init 7 = .ok (.newarray .int, 2) := by decide +kernel
theorem dX2_init_9 : decode cX2_init 9 = .ok (.putfield 9, 3) := by decide +kernel
theorem dX2_init_12 : decode cX2_init 12 = .ok (.aload_n 0, 1) := by decide +kernel
theorem dX2_init_13 : decode cX2_init 13 = .ok (.bipush 12, 2) := by decide +kernel
theorem dX2_init_15 : decode cX2_init 15 = .ok (.newarray .int, 2) := by decide +kernel
theorem dX2_init_17 : decode cX2_init 17 = .ok (.putfield 15, 3) := by decide +kernel
theorem dX2_init_20 : decode cX2_init 20 = .ok (.aload_n 0, 1) := by decide +kernel
theorem dX2_init_21 : decode cX2_init 21 = .ok (.bipush 12, 2) := by decide +kernel
theorem dX2_init_23 : decode cX2_init 23 = .ok (.newarray .int, 2) := by decide +kernel
theorem dX2_init_25 : decode cX2_init 25 = .ok (.putfield 18, 3) := by decide +kernel
theorem dX2_init_28 : decode cX2_init 28 = .ok (.aload_n 0, 1) := by decide +kernel
theorem dX2_init_29 : decode cX2_init 29 = .ok (.bipush 12, 2) := by decide +kernel
theorem dX2_init_31 : decode cX2_init 31 = .ok (.newarray .int, 2) := by decide +kernel
theorem dX2_init_33 : decode cX2_init 33 = .ok (.putfield 21, 3) := by decide +kernel
theorem dX2_init_36 : decode cX2_init 36 = .ok (.return_, 1) := by decide +kernel
theorem dX2_append_0 : decode cX2_append 0 = .ok (.aload_n 0, 1) := by decide +kernel
theorem dX2_append_1 : decode cX2_append 1 = .ok (.getfield 9, 3) := by decide +kernel
theorem dX2_append_4 : decode cX2_append 4 = .ok (.aload_n 0, 1) := by decide +kernel
theorem dX2_append_5 : decode cX2_append 5 = .ok (.getfield 24, 3) := by decide +kernel
theorem dX2_append_8 : decode cX2_append 8 = .ok (.iload_n 1, 1) := by decide +kernel
theorem dX2_append_9 : decode cX2_append 9 = .ok (.iastore, 1) := by decide +kernel
theorem dX2_append_10 : decode cX2_append 10 = .ok (.aload_n 0, 1) := by decide +kernel
theorem dX2_append_11 : decode cX2_append 11 = .ok (.getfield 15, 3) := by decide +kernel
theorem dX2_append_14 : decode cX2_append 14 = .ok (.aload_n 0, 1) := by decide +kernel
theorem dX2_append_15 : decode cX2_append 15 = .ok (.getfield 24, 3) := by decide +kernel
theorem dX2_append_18 : decode cX2_append 18 = .ok (.iload_n 2, 1) := by decide +kernel
theorem dX2_append_19 : decode cX2_append 19 = .ok (.iastore, 1) := by decide +kernel
theorem dX2_append_20 : decode cX2_append 20 = .ok (.aload_n 0, 1) := by decide +kernel
theorem dX2_append_21 : decode cX2_append 21 = .ok (.getfield 18, 3) := by decide +kernel
theorem dX2_append_24 : decode cX2_append 24 = .ok (.aload_n 0, 1) := by decide +kernel
theorem dX2_append_25 : decode cX2_append 25 = .ok (.getfield 24, 3) := by decide +kernel
theorem dX2_append_28 : decode cX2_append 28 = .ok (.iload_n 3, 1) := by decide +kernel
theorem dX2_append_29 : decode cX2_append 29 = .ok (.iastore, 1) := by decide +kernel
theorem dX2_append_30 : decode cX2_append 30 = .ok (.aload_n 0, 1) := by decide +kernel
theorem dX2_append_31 : decode cX2_append 31 = .ok (.getfield 21, 3) := by decide +kernel
theorem dX2_append_34 : decode cX2_append 34 = .ok (.aload_n 0, 1) := by decide +kernel
theorem dX2_append_35 : decode cX2_append 35 = .ok (.getfield 24, 3) := by decide +kernel
theorem dX2_append_38 : decode cX2_append 38 = .ok (.iload 4, 2) := by decide +kernel
theorem dX2_append_40 : decode cX2_append 40 = .ok (.iastore, 1) := by decide +kernel
theorem dX2_append_41 : decode cX2_append 41 = .ok (.aload_n 0, 1) := by decide +kernel
theorem dX2_append_42 : decode cX2_append 42 = .ok (.dup, 1) := by decide +kernel
theorem dX2_append_43 : decode cX2_append 43 = .ok (.getfield 24, 3) := by decide +kernel
theorem dX2_append_46 : decode cX2_append 46 = .ok (.iconst 1, 1) := by decide +kernel
theorem dX2_append_47 : decode cX2_append 47 = .ok (.iadd, 1) := by decide +kernel
theorem dX2_append_48 : decode cX2_append 48 = .ok (.putfield 24, 3) := by decide +kernel
theorem dX2_append_51 : decode cX2_append 51 = .ok (.return_, 1) := by decide +kernel
theorem dX2_tintOf_0 : decode cX2_tintOf 0 = .ok (.aload_n 0, 1) := by decide +kernel
theorem dX2_tintOf_1 : decode cX2_tintOf 1 = .ok (.getfield 24, 3) := by decide +kernel
theorem dX2_tintOf_4 : decode cX2_tintOf 4 = .ok (.iconst 1, 1) := by decide +kernel
theorem dX2_tintOf_5 : decode cX2_tintOf 5 = .ok (.isub, 1) := by decide +kernel
theorem dX2_tintOf_6 : decode cX2_tintOf 6 = .ok (.istore_n 3, 1) := by decide +kernel
theorem dX2_tintOf_7 : decode cX2_tintOf 7 = .ok (.iload_n 3, 1) := by decide +kernel
theorem dX2_tintOf_8 : decode cX2_tintOf 8 = .ok (.ifCond .lt 46, 3) := by decide +kernel
theorem dX2_tintOf_11 : decode cX2_tintOf 11 = .ok (.aload_n 0, 1) := by decide +kernel
theorem dX2_tintOf_12 : decode cX2_tintOf 12 = .ok (.getfield 9, 3) := by decide +kernel
theorem dX2_tintOf_15 : decode cX2_tintOf 15 = .ok (.iload_n 3, 1) := by decide +kernel
theorem dX2_tintOf_16 : decode cX2_tintOf 16 = .ok (.iaload, 1) := by decide +kernel
theorem dX2_tintOf_17 : decode cX2_tintOf 17 = .ok (.iload_n 1, 1) := by decide +kernel
theorem dX2_tintOf_18 : decode cX2_tintOf 18 = .ok (.if_icmp .ne 30, 3) := by decide +kernel
theorem dX2_tintOf_21 : decode cX2_tintOf 21 = .ok (.aload_n 0, 1) := by decide +kernel
theorem dX2_tintOf_22 : decode cX2_tintOf 22 = .ok (.getfield 15, 3) := by decide +kernel
theorem dX2_tintOf_25 : decode cX2_tintOf 25 = .ok (.iload_n 3, 1) := by decide +kernel
theorem dX2_tintOf_26 : decode cX2_tintOf 26 = .ok (.iaload, 1) := by decide +kernel
theorem dX2_tintOf_27 : decode cX2_tintOf 27 = .ok (.iload_n 2, 1) := by decide +kernel
theorem dX2_tintOf_28 : decode cX2_tintOf 28 = .ok (.if_icmp .gt 20, 3) := by decide +kernel
theorem dX2_tintOf_31 : decode cX2_tintOf 31 = .ok (.iload_n 2, 1) := by decide +kernel
theorem dX2_tintOf_32 : decode cX2_tintOf 32 = .ok (.aload_n 0, 1) := by decide +kernel
theorem dX2_tintOf_33 : decode cX2_tintOf 33 = .ok (.getfield 18, 3) := by decide +kernel
theorem dX2_tintOf_36 : decode cX2_tintOf 36 = .ok (.iload_n 3, 1) := by decide +kernel
theorem dX2_tintOf_37 : decode cX2_tintOf 37 = .ok (.iaload, 1) := by decide +kernel
theorem dX2_tintOf_38 : decode cX2_tintOf 38 = .ok (.if_icmp .gt 10, 3) := by decide +kernel
theorem dX2_tintOf_41 : decode cX2_tintOf 41 = .ok (.aload_n 0, 1) := by decide +kernel
theorem dX2_tintOf_42 : decode cX2_tintOf 42 = .ok (.getfield 21, 3) := by decide +kernel
theorem dX2_tintOf_45 : decode cX2_tintOf 45 = .ok (.iload_n 3, 1) := by decide +kernel
theorem dX2_tintOf_46 : decode cX2_tintOf 46 = .ok (.iaload, 1) := by decide +kernel
theorem dX2_tintOf_47 : decode cX2_tintOf 47 = .ok (.ireturn, 1) := by decide +kernel
theorem dX2_tintOf_48 : decode cX2_tintOf 48 = .ok (.iinc 3 (-1), 3) := by decide +kernel
theorem dX2_tintOf_51 : decode cX2_tintOf 51 = .ok (.goto (-44), 3) := by decide +kernel
theorem dX2_tintOf_54 : decode cX2_tintOf 54 = .ok (.iconst 0, 1) := by decide +kernel
theorem dX2_tintOf_55 : decode cX2_tintOf 55 = .ok (.ireturn, 1) := by decide +kernel
theorem dX3_init_0 : decode cX3_init 0 = .ok (.aload_n 0, 1) := by decide +kernel
theorem dX3_init_1 : decode cX3_init 1 = .ok (.invokespecial 3, 3) := by decide +kernel
theorem dX3_init_4 : decode cX3_init 4 = .ok (.aload_n 0, 1) := by decide +kernel
theorem dX3_init_5 : decode cX3_init 5 = .ok (.bipush 40, 2) := by decide +kernel
theorem dX3_init_7 : decode cX3_init 7 = .ok (.newarray .int, 2) := by decide +kernel
theorem dX3_init_9 : decode cX3_init 9 = .ok (.putfield 9, 3) := by decide +kernel
theorem dX3_init_12 : decode cX3_init 12 = .ok (.aload_n 0, 1) := by decide +kernel
theorem dX3_init_13 : decode cX3_init 13 = .ok (.bipush 40, 2) := by decide +kernel
theorem dX3_init_15 : decode cX3_init 15 = .ok (.newarray .int, 2) := by decide +kernel
theorem dX3_init_17 : decode cX3_init 17 = .ok (.putfield 15, 3) := by decide +kernel
theorem dX3_init_20 : decode cX3_init 20 = .ok (.aload_n 0, 1) := by decide +kernel
theorem dX3_init_21 : decode cX3_init 21 = .ok (.bipush 40, 2) := by decide +kernel
theorem dX3_init_23 : decode cX3_init 23 = .ok (.newarray .int, 2) := by decide +kernel
theorem dX3_init_25 : decode cX3_init 25 = .ok (.putfield 18, 3) := by decide +kernel
theorem dX3_init_28 : decode cX3_init 28 = .ok (.return_, 1) := by decide +kernel
theorem dX3_hasRoomFor_0 : decode cX3_hasRoomFor 0 = .ok (.aload_n 0, 1) := by decide +kernel
theorem dX3_hasRoomFor_1 : decode cX3_hasRoomFor 1 = .ok (.getfield 21, 3) := by decide +kernel
theorem dX3_hasRoomFor_4 : decode cX3_hasRoomFor 4 = .ok (.iload_n 1, 1) := by decide +kernel
theorem dX3_hasRoomFor_5 : decode cX3_hasRoomFor 5 = .ok (.iadd, 1) := by decide +kernel
theorem dX3_hasRoomFor_6 : decode cX3_hasRoomFor 6 = .ok (.bipush 40, 2) := by decide +kernel
theorem dX3_hasRoomFor_8 : decode cX3_hasRoomFor 8 = .ok (.if_icmp .gt 7, 3) := by decide +kernel
theorem dX3_hasRoomFor_11 : decode cX3_hasRoomFor 11 = .ok (.iconst 1, 1) := by decide +kernel
theorem dX3_hasRoomFor_12 : decode cX3_hasRoomFor 12 = .ok (.goto 4, 3) := by decide +kernel
theorem dX3_hasRoomFor_15 : decode cX3_hasRoomFor 15 = .ok (.iconst 0, 1) := by decide +kernel
theorem dX3_hasRoomFor_16 : decode cX3_hasRoomFor 16 = .ok (.ireturn, 1) := by decide +kernel
theorem dX3_append_0 : decode cX3_append 0 = .ok (.aload_n 0, 1) := by decide +kernel
theorem dX3_append_1 : decode cX3_append 1 = .ok (.getfield 9, 3) := by decide +kernel
theorem dX3_append_4 : decode cX3_append 4 = .ok (.aload_n 0, 1) := by decide +kernel
theorem dX3_append_5 : decode cX3_append 5 = .ok (.getfield 21, 3) := by decide +kernel
theorem dX3_append_8 : decode cX3_append 8 = .ok (.iload_n 1, 1) := by decide +kernel
theorem dX3_append_9 : decode cX3_append 9 = .ok (.iastore, 1) := by decide +kernel
theorem dX3_append_10 : decode cX3_append 10 = .ok (.aload_n 0, 1) := by decide +kernel
theorem dX3_append_11 : decode cX3_append 11 = .ok (.getfield 15, 3) := by decide +kernel
theorem dX3_append_14 : decode cX3_append 14 = .ok (.aload_n 0, 1) := by decide +kernel
theorem dX3_append_15 : decode cX3_append 15 = .ok (.getfield 21, 3) := by decide +kernel
theorem dX3_append_18 : decode cX3_append 18 = .ok (.iload_n 2, 1) := by decide +kernel
theorem dX3_append_19 : decode cX3_append 19 = .ok (.iastore, 1) := by decide +kernel
theorem dX3_append_20 : decode cX3_append 20 = .ok (.aload_n 0, 1) := by decide +kernel
theorem dX3_append_21 : decode cX3_append 21 = .ok (.getfield 18, 3) := by decide +kernel
theorem dX3_append_24 : decode cX3_append 24 = .ok (.aload_n 0, 1) := by decide +kernel
theorem dX3_append_25 : decode cX3_append 25 = .ok (.getfield 21, 3) := by decide +kernel
theorem dX3_append_28 : decode cX3_append 28 = .ok (.iload_n 3, 1) := by decide +kernel
theorem dX3_append_29 : decode cX3_append 29 = .ok (.iastore, 1) := by decide +kernel
theorem dX3_append_30 : decode cX3_append 30 = .ok (.aload_n 0, 1) := by decide +kernel
theorem dX3_append_31 : decode cX3_append 31 = .ok (.dup, 1) := by decide +kernel
theorem dX3_append_32 : decode cX3_append 32 = .ok (.getfield 21, 3) := by decide +kernel
theorem dX3_append_35 : decode cX3_append 35 = .ok (.iconst 1, 1) := by decide +kernel
theorem dX3_append_36 : decode cX3_append 36 = .ok (.iadd, 1) := by decide +kernel
theorem dX3_append_37 : decode cX3_append 37 = .ok (.putfield 21, 3) := by decide +kernel
theorem dX3_append_40 : decode cX3_append 40 = .ok (.return_, 1) := by decide +kernel
theorem dX4_init_0 : decode cX4_init 0 = .ok (.aload_n 0, 1) := by decide +kernel
theorem dX4_init_1 : decode cX4_init 1 = .ok (.invokespecial 3, 3) := by decide +kernel
theorem dX4_init_4 : decode cX4_init 4 = .ok (.aload_n 0, 1) := by decide +kernel
theorem dX4_init_5 : decode cX4_init 5 = .ok (.bipush 40, 2) := by decide +kernel
theorem dX4_init_7 : decode cX4_init 7 = .ok (.newarray .int, 2) := by decide +kernel
theorem dX4_init_9 : decode cX4_init 9 = .ok (.putfield 9, 3) := by decide +kernel
theorem dX4_init_12 : decode cX4_init 12 = .ok (.aload_n 0, 1) := by decide +kernel
theorem dX4_init_13 : decode cX4_init 13 = .ok (.bipush 40, 2) := by decide +kernel
theorem dX4_init_15 : decode cX4_init 15 = .ok (.newarray .int, 2) := by decide +kernel
theorem dX4_init_17 : decode cX4_init 17 = .ok (.putfield 15, 3) := by decide +kernel
theorem dX4_init_20 : decode cX4_init 20 = .ok (.return_, 1) := by decide +kernel
theorem dX4_has_0 : decode cX4_has 0 = .ok (.iload_n 1, 1) := by decide +kernel
theorem dX4_has_1 : decode cX4_has 1 = .ok (.ifCond .lt 15, 3) := by decide +kernel
theorem dX4_has_4 : decode cX4_has 4 = .ok (.iload_n 1, 1) := by decide +kernel
theorem dX4_has_5 : decode cX4_has 5 = .ok (.aload_n 0, 1) := by decide +kernel
theorem dX4_has_6 : decode cX4_has 6 = .ok (.getfield 18, 3) := by decide +kernel
theorem dX4_has_9 : decode cX4_has 9 = .ok (.if_icmp .ge 7, 3) := by decide +kernel
theorem dX4_has_12 : decode cX4_has 12 = .ok (.iconst 1, 1) := by decide +kernel
theorem dX4_has_13 : decode cX4_has 13 = .ok (.goto 4, 3) := by decide +kernel
theorem dX4_has_16 : decode cX4_has 16 = .ok (.iconst 0, 1) := by decide +kernel
theorem dX4_has_17 : decode cX4_has 17 = .ok (.ireturn, 1) := by decide +kernel
theorem dX4_append_0 : decode cX4_append 0 = .ok (.aload_n 0, 1) := by decide +kernel
theorem dX4_append_1 : decode cX4_append 1 = .ok (.getfield 9, 3) := by decide +kernel
theorem dX4_append_4 : decode cX4_append 4 = .ok (.aload_n 0, 1) := by decide +kernel
theorem dX4_append_5 : decode cX4_append 5 = .ok (.getfield 18, 3) := by decide +kernel
theorem dX4_append_8 : decode cX4_append 8 = .ok (.iload_n 1, 1) := by decide +kernel
theorem dX4_append_9 : decode cX4_append 9 = .ok (.iastore, 1) := by decide +kernel
theorem dX4_append_10 : decode cX4_append 10 = .ok (.aload_n 0, 1) := by decide +kernel
theorem dX4_append_11 : decode cX4_append 11 = .ok (.getfield 15, 3) := by decide +kernel
theorem dX4_append_14 : decode cX4_append 14 = .ok (.aload_n 0, 1) := by decide +kernel
theorem dX4_append_15 : decode cX4_append 15 = .ok (.getfield 18, 3) := by decide +kernel
theorem dX4_append_18 : decode cX4_append 18 = .ok (.iload_n 2, 1) := by decide +kernel
theorem dX4_append_19 : decode cX4_append 19 = .ok (.iastore, 1) := by decide +kernel
theorem dX4_append_20 : decode cX4_append 20 = .ok (.aload_n 0, 1) := by decide +kernel
theorem dX4_append_21 : decode cX4_append 21 = .ok (.dup, 1) := by decide +kernel
theorem dX4_append_22 : decode cX4_append 22 = .ok (.getfield 18, 3) := by decide +kernel
theorem dX4_append_25 : decode cX4_append 25 = .ok (.iconst 1, 1) := by decide +kernel
theorem dX4_append_26 : decode cX4_append 26 = .ok (.iadd, 1) := by decide +kernel
theorem dX4_append_27 : decode cX4_append 27 = .ok (.putfield 18, 3) := by decide +kernel
theorem dX4_append_30 : decode cX4_append 30 = .ok (.return_, 1) := by decide +kernel
theorem dX6_init_0 : decode cX6_init 0 = .ok (.aload_n 0, 1) := by decide +kernel
theorem dX6_init_1 : decode cX6_init 1 = .ok (.invokespecial 3, 3) := by decide +kernel
theorem dX6_init_4 : decode cX6_init 4 = .ok (.aload_n 0, 1) := by decide +kernel
theorem dX6_init_5 : decode cX6_init 5 = .ok (.bipush 30, 2) := by decide +kernel
theorem dX6_init_7 : decode cX6_init 7 = .ok (.newarray .int, 2) := by decide +kernel
theorem dX6_init_9 : decode cX6_init 9 = .ok (.putfield 9, 3) := by decide +kernel
theorem dX6_init_12 : decode cX6_init 12 = .ok (.aload_n 0, 1) := by decide +kernel
theorem dX6_init_13 : decode cX6_init 13 = .ok (.bipush 30, 2) := by decide +kernel
theorem dX6_init_15 : decode cX6_init 15 = .ok (.newarray .int, 2) := by decide +kernel
theorem dX6_init_17 : decode cX6_init 17 = .ok (.putfield 15, 3) := by decide +kernel
theorem dX6_init_20 : decode cX6_init 20 = .ok (.aload_n 0, 1) := by decide +kernel
theorem dX6_init_21 : decode cX6_init 21 = .ok (.bipush 30, 2) := by decide +kernel
theorem dX6_init_23 : decode cX6_init 23 = .ok (.newarray .int, 2) := by decide +kernel
theorem dX6_init_25 : decode cX6_init 25 = .ok (.putfield 18, 3) := by decide +kernel
theorem dX6_init_28 : decode cX6_init 28 = .ok (.return_, 1) := by decide +kernel
theorem dX6_keep_0 : decode cX6_keep 0 = .ok (.aload_n 0, 1) := by decide +kernel
theorem dX6_keep_1 : decode cX6_keep 1 = .ok (.getfield 21, 3) := by decide +kernel
theorem dX6_keep_4 : decode cX6_keep 4 = .ok (.bipush 30, 2) := by decide +kernel
theorem dX6_keep_6 : decode cX6_keep 6 = .ok (.if_icmp .ne 7, 3) := by decide +kernel
theorem dX6_keep_9 : decode cX6_keep 9 = .ok (.aload_n 0, 1) := by decide +kernel
theorem dX6_keep_10 : decode cX6_keep 10 = .ok (.invokevirtual 25, 3) := by decide +kernel
theorem dX6_keep_13 : decode cX6_keep 13 = .ok (.aload_n 0, 1) := by decide +kernel
theorem dX6_keep_14 : decode cX6_keep 14 = .ok (.getfield 9, 3) := by decide +kernel
theorem dX6_keep_17 : decode cX6_keep 17 = .ok (.aload_n 0, 1) := by decide +kernel
theorem dX6_keep_18 : decode cX6_keep 18 = .ok (.getfield 21, 3) := by decide +kernel
theorem dX6_keep_21 : decode cX6_keep 21 = .ok (.iload_n 1, 1) := by decide +kernel
theorem dX6_keep_22 : decode cX6_keep 22 = .ok (.iastore, 1) := by decide +kernel
theorem dX6_keep_23 : decode cX6_keep 23 = .ok (.aload_n 0, 1) := by decide +kernel
theorem dX6_keep_24 : decode cX6_keep 24 = .ok (.getfield 15, 3) := by decide +kernel
theorem dX6_keep_27 : decode cX6_keep 27 = .ok (.aload_n 0, 1) := by decide +kernel
theorem dX6_keep_28 : decode cX6_keep 28 = .ok (.getfield 21, 3) := by decide +kernel
theorem dX6_keep_31 : decode cX6_keep 31 = .ok (.iload_n 2, 1) := by decide +kernel
theorem dX6_keep_32 : decode cX6_keep 32 = .ok (.iastore, 1) := by decide +kernel
theorem dX6_keep_33 : decode cX6_keep 33 = .ok (.aload_n 0, 1) := by decide +kernel
theorem dX6_keep_34 : decode cX6_keep 34 = .ok (.getfield 18, 3) := by decide +kernel
theorem dX6_keep_37 : decode cX6_keep 37 = .ok (.aload_n 0, 1) := by decide +kernel
theorem dX6_keep_38 : decode cX6_keep 38 = .ok (.getfield 21, 3) := by decide +kernel
theorem dX6_keep_41 : decode cX6_keep 41 = .ok (.iload_n 3, 1) := by decide +kernel
theorem dX6_keep_42 : decode cX6_keep 42 = .ok (.iastore, 1) := by decide +kernel
theorem dX6_keep_43 : decode cX6_keep 43 = .ok (.aload_n 0, 1) := by decide +kernel
theorem dX6_keep_44 : decode cX6_keep 44 = .ok (.dup, 1) := by decide +kernel
theorem dX6_keep_45 : decode cX6_keep 45 = .ok (.getfield 21, 3) := by decide +kernel
theorem dX6_keep_48 : decode cX6_keep 48 = .ok (.iconst 1, 1) := by decide +kernel
theorem dX6_keep_49 : decode cX6_keep 49 = .ok (.iadd, 1) := by decide +kernel
theorem dX6_keep_50 : decode cX6_keep 50 = .ok (.putfield 21, 3) := by decide +kernel
theorem dX6_keep_53 : decode cX6_keep 53 = .ok (.return_, 1) := by decide +kernel
theorem dX6_dropOldest_0 : decode cX6_dropOldest 0 = .ok (.aload_n 0, 1) := by decide +kernel
theorem dX6_dropOldest_1 : decode cX6_dropOldest 1 = .ok (.dup, 1) := by decide +kernel
theorem dX6_dropOldest_2 : decode cX6_dropOldest 2 = .ok (.getfield 21, 3) := by decide +kernel
theorem dX6_dropOldest_5 : decode cX6_dropOldest 5 = .ok (.iconst 1, 1) := by decide +kernel
theorem dX6_dropOldest_6 : decode cX6_dropOldest 6 = .ok (.isub, 1) := by decide +kernel
theorem dX6_dropOldest_7 : decode cX6_dropOldest 7 = .ok (.putfield 21, 3) := by decide +kernel
theorem dX6_dropOldest_10 : decode cX6_dropOldest 10 = .ok (.aload_n 0, 1) := by decide +kernel
theorem dX6_dropOldest_11 : decode cX6_dropOldest 11 = .ok (.getfield 9, 3) := by decide +kernel
theorem dX6_dropOldest_14 : decode cX6_dropOldest 14 = .ok (.iconst 1, 1) := by decide +kernel
theorem dX6_dropOldest_15 : decode cX6_dropOldest 15 = .ok (.aload_n 0, 1) := by decide +kernel
theorem dX6_dropOldest_16 : decode cX6_dropOldest 16 = .ok (.getfield 9, 3) := by decide +kernel
theorem dX6_dropOldest_19 : decode cX6_dropOldest 19 = .ok (.iconst 0, 1) := by decide +kernel
theorem dX6_dropOldest_20 : decode cX6_dropOldest 20 = .ok (.aload_n 0, 1) := by decide +kernel
theorem dX6_dropOldest_21 : decode cX6_dropOldest 21 = .ok (.getfield 21, 3) := by decide +kernel
theorem dX6_dropOldest_24 : decode cX6_dropOldest 24 = .ok (.invokestatic 28, 3) := by decide +kernel
theorem dX6_dropOldest_27 : decode cX6_dropOldest 27 = .ok (.aload_n 0, 1) := by decide +kernel
theorem dX6_dropOldest_28 : decode cX6_dropOldest 28 = .ok (.getfield 15, 3) := by decide +kernel
theorem dX6_dropOldest_31 : decode cX6_dropOldest 31 = .ok (.iconst 1, 1) := by decide +kernel
theorem dX6_dropOldest_32 : decode cX6_dropOldest 32 = .ok (.aload_n 0, 1) := by decide +kernel
theorem dX6_dropOldest_33 : decode cX6_dropOldest 33 = .ok (.getfield 15, 3) := by decide +kernel
theorem dX6_dropOldest_36 : decode cX6_dropOldest 36 = .ok (.iconst 0, 1) := by decide +kernel
theorem dX6_dropOldest_37 : decode cX6_dropOldest 37 = .ok (.aload_n 0, 1) := by decide +kernel
theorem dX6_dropOldest_38 : decode cX6_dropOldest 38 = .ok (.getfield 21, 3) := by decide +kernel
theorem dX6_dropOldest_41 : decode cX6_dropOldest 41 = .ok (.invokestatic 28, 3) := by decide +kernel
theorem dX6_dropOldest_44 : decode cX6_dropOldest 44 = .ok (.aload_n 0, 1) := by decide +kernel
theorem dX6_dropOldest_45 : decode cX6_dropOldest 45 = .ok (.getfield 18, 3) := by decide +kernel
theorem dX6_dropOldest_48 : decode cX6_dropOldest 48 = .ok (.iconst 1, 1) := by decide +kernel
theorem dX6_dropOldest_49 : decode cX6_dropOldest 49 = .ok (.aload_n 0, 1) := by decide +kernel
theorem dX6_dropOldest_50 : decode cX6_dropOldest 50 = .ok (.getfield 18, 3) := by decide +kernel
theorem dX6_dropOldest_53 : decode cX6_dropOldest 53 = .ok (.iconst 0, 1) := by decide +kernel
theorem dX6_dropOldest_54 : decode cX6_dropOldest 54 = .ok (.aload_n 0, 1) := by decide +kernel
theorem dX6_dropOldest_55 : decode cX6_dropOldest 55 = .ok (.getfield 21, 3) := by decide +kernel
theorem dX6_dropOldest_58 : decode cX6_dropOldest 58 = .ok (.invokestatic 28, 3) := by decide +kernel
theorem dX6_dropOldest_61 : decode cX6_dropOldest 61 = .ok (.return_, 1) := by decide +kernel
theorem dX7_isTold_0 : decode cX7_isTold 0 = .ok (.iconst 0, 1) := by decide +kernel
theorem dX7_isTold_1 : decode cX7_isTold 1 = .ok (.istore_n 3, 1) := by decide +kernel
theorem dX7_isTold_2 : decode cX7_isTold 2 = .ok (.iload_n 3, 1) := by decide +kernel
theorem dX7_isTold_3 : decode cX7_isTold 3 = .ok (.iload_n 0, 1) := by decide +kernel
theorem dX7_isTold_4 : decode cX7_isTold 4 = .ok (.if_icmp .ge 37, 3) := by decide +kernel
theorem dX7_isTold_7 : decode cX7_isTold 7 = .ok (.iload_n 0, 1) := by decide +kernel
theorem dX7_isTold_8 : decode cX7_isTold 8 = .ok (.lload_n 1, 1) := by decide +kernel
theorem dX7_isTold_9 : decode cX7_isTold 9 = .ok (.iload_n 3, 1) := by decide +kernel
theorem dX7_isTold_10 : decode cX7_isTold 10 = .ok (.invokestatic 9, 3) := by decide +kernel
theorem dX7_isTold_13 : decode cX7_isTold 13 = .ok (.istore 4, 2) := by decide +kernel
theorem dX7_isTold_15 : decode cX7_isTold 15 = .ok (.iload 4, 2) := by decide +kernel
theorem dX7_isTold_17 : decode cX7_isTold 17 = .ok (.bipush 31, 2) := by decide +kernel
theorem dX7_isTold_19 : decode cX7_isTold 19 = .ok (.iand, 1) := by decide +kernel
theorem dX7_isTold_20 : decode cX7_isTold 20 = .ok (.ifCond .ne 13, 3) := by decide +kernel
theorem dX7_isTold_23 : decode cX7_isTold 23 = .ok (.iload 4, 2) := by decide +kernel
theorem dX7_isTold_25 : decode cX7_isTold 25 = .ok (.invokestatic 15, 3) := by decide +kernel
theorem dX7_isTold_28 : decode cX7_isTold 28 = .ok (.bipush 9, 2) := by decide +kernel
theorem dX7_isTold_30 : decode cX7_isTold 30 = .ok (.if_icmp .le 5, 3) := by decide +kernel
theorem dX7_isTold_33 : decode cX7_isTold 33 = .ok (.iconst 0, 1) := by decide +kernel
theorem dX7_isTold_34 : decode cX7_isTold 34 = .ok (.ireturn, 1) := by decide +kernel
theorem dX7_isTold_35 : decode cX7_isTold 35 = .ok (.iinc 3 1, 3) := by decide +kernel
theorem dX7_isTold_38 : decode cX7_isTold 38 = .ok (.goto (-36), 3) := by decide +kernel
theorem dX7_isTold_41 : decode cX7_isTold 41 = .ok (.iconst 1, 1) := by decide +kernel
theorem dX7_isTold_42 : decode cX7_isTold 42 = .ok (.ireturn, 1) := by decide +kernel
theorem dX7_bitsOf_0 : decode cX7_bitsOf 0 = .ok (.lload_n 1, 1) := by decide +kernel
theorem dX7_bitsOf_1 : decode cX7_bitsOf 1 = .ok (.bipush 16, 2) := by decide +kernel
theorem dX7_bitsOf_3 : decode cX7_bitsOf 3 = .ok (.iload_n 0, 1) := by decide +kernel
theorem dX7_bitsOf_4 : decode cX7_bitsOf 4 = .ok (.iconst 1, 1) := by decide +kernel
theorem dX7_bitsOf_5 : decode cX7_bitsOf 5 = .ok (.isub, 1) := by decide +kernel
theorem dX7_bitsOf_6 : decode cX7_bitsOf 6 = .ok (.iload_n 3, 1) := by decide +kernel
theorem dX7_bitsOf_7 : decode cX7_bitsOf 7 = .ok (.isub, 1) := by decide +kernel
theorem dX7_bitsOf_8 : decode cX7_bitsOf 8 = .ok (.imul, 1) := by decide +kernel
theorem dX7_bitsOf_9 : decode cX7_bitsOf 9 = .ok (.lushr, 1) := by decide +kernel
theorem dX7_bitsOf_10 : decode cX7_bitsOf 10 = .ok (.l2i, 1) := by decide +kernel
theorem dX7_bitsOf_11 : decode cX7_bitsOf 11 = .ok (.ldc 19, 2) := by decide +kernel
theorem dX7_bitsOf_13 : decode cX7_bitsOf 13 = .ok (.iand, 1) := by decide +kernel
theorem dX7_bitsOf_14 : decode cX7_bitsOf 14 = .ok (.ireturn, 1) := by decide +kernel
theorem dX7_markIn_0 : decode cX7_markIn 0 = .ok (.iload_n 0, 1) := by decide +kernel
theorem dX7_markIn_1 : decode cX7_markIn 1 = .ok (.bipush 10, 2) := by decide +kernel
theorem dX7_markIn_3 : decode cX7_markIn 3 = .ok (.ishr, 1) := by decide +kernel
theorem dX7_markIn_4 : decode cX7_markIn 4 = .ok (.ireturn, 1) := by decide +kernel
theorem dX7_wearIn_0 : decode cX7_wearIn 0 = .ok (.iload_n 0, 1) := by decide +kernel
theorem dX7_wearIn_1 : decode cX7_wearIn 1 = .ok (.bipush 6, 2) := by decide +kernel
theorem dX7_wearIn_3 : decode cX7_wearIn 3 = .ok (.ishr, 1) := by decide +kernel
theorem dX7_wearIn_4 : decode cX7_wearIn 4 = .ok (.bipush 15, 2) := by decide +kernel
theorem dX7_wearIn_6 : decode cX7_wearIn 6 = .ok (.iand, 1) := by decide +kernel
theorem dX7_wearIn_7 : decode cX7_wearIn 7 = .ok (.ireturn, 1) := by decide +kernel
theorem dX7_cameraIn_0 : decode cX7_cameraIn 0 = .ok (.iload_n 0, 1) := by decide +kernel
theorem dX7_cameraIn_1 : decode cX7_cameraIn 1 = .ok (.iconst 5, 1) := by decide +kernel
theorem dX7_cameraIn_2 : decode cX7_cameraIn 2 = .ok (.ishr, 1) := by decide +kernel
theorem dX7_cameraIn_3 : decode cX7_cameraIn 3 = .ok (.iconst 1, 1) := by decide +kernel
theorem dX7_cameraIn_4 : decode cX7_cameraIn 4 = .ok (.iand, 1) := by decide +kernel
theorem dX7_cameraIn_5 : decode cX7_cameraIn 5 = .ok (.ireturn, 1) := by decide +kernel
theorem dJ7_fill_53178_0 : decode cJ7_fill_53178 0 = .ok (.iconst 0, 1) := by decide +kernel
theorem dJ7_fill_53178_1 : decode cJ7_fill_53178 1 = .ok (.istore_n 2, 1) := by decide +kernel
theorem dJ7_fill_53178_2 : decode cJ7_fill_53178 2 = .ok (.aload_n 0, 1) := by decide +kernel
theorem dJ7_fill_53178_3 : decode cJ7_fill_53178 3 = .ok (.arraylength, 1) := by decide +kernel
theorem dJ7_fill_53178_4 : decode cJ7_fill_53178 4 = .ok (.istore_n 3, 1) := by decide +kernel
theorem dJ7_fill_53178_5 : decode cJ7_fill_53178 5 = .ok (.iload_n 2, 1) := by decide +kernel
theorem dJ7_fill_53178_6 : decode cJ7_fill_53178 6 = .ok (.iload_n 3, 1) := by decide +kernel
theorem dJ7_fill_53178_7 : decode cJ7_fill_53178 7 = .ok (.if_icmp .ge 13, 3) := by decide +kernel
theorem dJ7_fill_53178_10 : decode cJ7_fill_53178 10 = .ok (.aload_n 0, 1) := by decide +kernel
theorem dJ7_fill_53178_11 : decode cJ7_fill_53178 11 = .ok (.iload_n 2, 1) := by decide +kernel
theorem dJ7_fill_53178_12 : decode cJ7_fill_53178 12 = .ok (.iload_n 1, 1) := by decide +kernel
theorem dJ7_fill_53178_13 : decode cJ7_fill_53178 13 = .ok (.iastore, 1) := by decide +kernel
theorem dJ7_fill_53178_14 : decode cJ7_fill_53178 14 = .ok (.iinc 2 1, 3) := by decide +kernel
theorem dJ7_fill_53178_17 : decode cJ7_fill_53178 17 = .ok (.goto (-12), 3) := by decide +kernel
theorem dJ7_fill_53178_20 : decode cJ7_fill_53178 20 = .ok (.return_, 1) := by decide +kernel
end
section
theorem dX5_init_0 : decode cX5_init 0 = .ok (.aload_n 0, 1) := by decide +kernel
theorem dX5_init_1 : decode cX5_init 1 = .ok (.invokespecial 3, 3) := by decide +kernel
theorem dX5_init_4 : decode cX5_init 4 = .ok (.aload_n 0, 1) := by decide +kernel
theorem dX5_init_5 : decode cX5_init 5 = .ok (.bipush 6, 2) := by decide +kernel
theorem dX5_init_7 : decode cX5_init 7 = .ok (.bipush 40, 2) := by decide +kernel
theorem dX5_init_9 : decode cX5_init 9 = .ok (.multianewarray 9 2, 4) := by decide +kernel
theorem dX5_init_13 : decode cX5_init 13 = .ok (.putfield 11, 3) := by decide +kernel
theorem dX5_init_16 : decode cX5_init 16 = .ok (.aload_n 0, 1) := by decide +kernel
theorem dX5_init_17 : decode cX5_init 17 = .ok (.bipush 40, 2) := by decide +kernel
theorem dX5_init_19 : decode cX5_init 19 = .ok (.bipush 7, 2) := by decide +kernel
theorem dX5_init_21 : decode cX5_init 21 = .ok (.multianewarray 9 2, 4) := by decide +kernel
theorem dX5_init_25 : decode cX5_init 25 = .ok (.putfield 16, 3) := by decide +kernel
theorem dX5_init_28 : decode cX5_init 28 = .ok (.aload_n 0, 1) := by decide +kernel
theorem dX5_init_29 : decode cX5_init 29 = .ok (.bipush 40, 2) := by decide +kernel
theorem dX5_init_31 : decode cX5_init 31 = .ok (.newarray .int, 2) := by decide +kernel
theorem dX5_init_33 : decode cX5_init 33 = .ok (.putfield 19, 3) := by decide +kernel
theorem dX5_init_36 : decode cX5_init 36 = .ok (.aload_n 0, 1) := by decide +kernel
theorem dX5_init_37 : decode cX5_init 37 = .ok (.aload_n 1, 1) := by decide +kernel
theorem dX5_init_38 : decode cX5_init 38 = .ok (.putfield 23, 3) := by decide +kernel
theorem dX5_init_41 : decode cX5_init 41 = .ok (.aload_n 0, 1) := by decide +kernel
theorem dX5_init_42 : decode cX5_init 42 = .ok (.aload_n 2, 1) := by decide +kernel
theorem dX5_init_43 : decode cX5_init 43 = .ok (.putfield 27, 3) := by decide +kernel
theorem dX5_init_46 : decode cX5_init 46 = .ok (.aload_n 0, 1) := by decide +kernel
theorem dX5_init_47 : decode cX5_init 47 = .ok (.aload_n 3, 1) := by decide +kernel
theorem dX5_init_48 : decode cX5_init 48 = .ok (.putfield 31, 3) := by decide +kernel
theorem dX5_init_51 : decode cX5_init 51 = .ok (.aload_n 0, 1) := by decide +kernel
theorem dX5_init_52 : decode cX5_init 52 = .ok (.aload 4, 2) := by decide +kernel
theorem dX5_init_54 : decode cX5_init 54 = .ok (.putfield 34, 3) := by decide +kernel
theorem dX5_init_57 : decode cX5_init 57 = .ok (.return_, 1) := by decide +kernel
theorem dX5_findStanding_0 : decode cX5_findStanding 0 = .ok (.aload_n 0, 1) := by decide +kernel
theorem dX5_findStanding_1 : decode cX5_findStanding 1 = .ok (.getfield 27, 3) := by decide +kernel
theorem dX5_findStanding_4 : decode cX5_findStanding 4 = .ok (.iload_n 1, 1) := by decide +kernel
theorem dX5_findStanding_5 : decode cX5_findStanding 5 = .ok (.aaload, 1) := by decide +kernel
theorem dX5_findStanding_6 : decode cX5_findStanding 6 = .ok (.astore_n 2, 1) := by decide +kernel
theorem dX5_findStanding_7 : decode cX5_findStanding 7 = .ok (.aload_n 0, 1) := by decide +kernel
theorem dX5_findStanding_8 : decode cX5_findStanding 8 = .ok (.getfield 34, 3) := by decide +kernel
theorem dX5_findStanding_11 : decode cX5_findStanding 11 = .ok (.aload_n 0, 1) := by decide +kernel
theorem dX5_findStanding_12 : decode cX5_findStanding 12 = .ok (.getfield 23, 3) := by decide +kernel
theorem dX5_findStanding_15 : decode cX5_findStanding 15 = .ok (.getfield 38, 3) := by decide +kernel
theorem dX5_findStanding_18 : decode cX5_findStanding 18 = .ok (.aload_n 0, 1) := by decide +kernel
theorem dX5_findStanding_19 : decode cX5_findStanding 19 = .ok (.getfield 23, 3) := by decide +kernel
theorem dX5_findStanding_22 : decode cX5_findStanding 22 = .ok (.getfield 43, 3) := by decide +kernel
theorem dX5_findStanding_25 : decode cX5_findStanding 25 = .ok (.aload_n 2, 1) := by decide +kernel
theorem dX5_findStanding_26 : decode cX5_findStanding 26 = .ok (.getfield 47, 3) := by decide +kernel
theorem dX5_findStanding_29 : decode cX5_findStanding 29 = .ok (.aload_n 2, 1) := by decide +kernel
theorem dX5_findStanding_30 : decode cX5_findStanding 30 = .ok (.getfield 50, 3) := by decide +kernel
theorem dX5_findStanding_33 : decode cX5_findStanding 33 = .ok (.invokevirtual 51, 3) := by decide +kernel
theorem dX5_findStanding_36 : decode cX5_findStanding 36 = .ok (.iconst 0, 1) := by decide +kernel
theorem dX5_findStanding_37 : decode cX5_findStanding 37 = .ok (.istore_n 3, 1) := by decide +kernel
theorem dX5_findStanding_38 : decode cX5_findStanding 38 = .ok (.iload_n 3, 1) := by decide +kernel
theorem dX5_findStanding_39 : decode cX5_findStanding 39 = .ok (.aload_n 0, 1) := by decide +kernel
theorem dX5_findStanding_40 : decode cX5_findStanding 40 = .ok (.getfield 23, 3) := by decide +kernel
theorem dX5_findStanding_43 : decode cX5_findStanding 43 = .ok (.getfield 43, 3) := by decide +kernel
theorem dX5_findStanding_46 : decode cX5_findStanding 46 = .ok (.if_icmp .ge 83, 3) := by decide +kernel
theorem dX5_findStanding_49 : decode cX5_findStanding 49 = .ok (.aload_n 0, 1) := by decide +kernel
theorem dX5_findStanding_50 : decode cX5_findStanding 50 = .ok (.getfield 34, 3) := by decide +kernel
theorem dX5_findStanding_53 : decode cX5_findStanding 53 = .ok (.getfield 57, 3) := by decide +kernel
theorem dX5_findStanding_56 : decode cX5_findStanding 56 = .ok (.iload_n 3, 1) := by decide +kernel
theorem dX5_findStanding_57 : decode cX5_findStanding 57 = .ok (.iaload, 1) := by decide +kernel
theorem dX5_findStanding_58 : decode cX5_findStanding 58 = .ok (.istore 4, 2) := by decide +kernel
theorem dX5_findStanding_60 : decode cX5_findStanding 60 = .ok (.iload 4, 2) := by decide +kernel
theorem dX5_findStanding_62 : decode cX5_findStanding 62 = .ok (.bipush (-4), 2) := by decide +kernel
theorem dX5_findStanding_64 : decode cX5_findStanding 64 = .ok (.if_icmp .eq 36, 3) := by decide +kernel
theorem dX5_findStanding_67 : decode cX5_findStanding 67 = .ok (.aload_n 0, 1) := by decide +kernel
theorem dX5_findStanding_68 : decode cX5_findStanding 68 = .ok (.getfield 23, 3) := by decide +kernel
theorem dX5_findStanding_71 : decode cX5_findStanding 71 = .ok (.getfield 38, 3) := by decide +kernel
theorem dX5_findStanding_74 : decode cX5_findStanding 74 = .ok (.iload_n 3, 1) := by decide +kernel
theorem dX5_findStanding_75 : decode cX5_findStanding 75 = .ok (.iaload, 1) := by decide +kernel
theorem dX5_findStanding_76 : decode cX5_findStanding 76 = .ok (.aload_n 2, 1) := by decide +kernel
theorem dX5_findStanding_77 : decode cX5_findStanding 77 = .ok (.getfield 47, 3) := by decide +kernel
theorem dX5_findStanding_80 : decode cX5_findStanding 80 = .ok (.iload 4, 2) := by decide +kernel
theorem dX5_findStanding_82 : decode cX5_findStanding 82 = .ok (.iaload, 1) := by decide +kernel
theorem dX5_findStanding_83 : decode cX5_findStanding 83 = .ok (.isub, 1) := by decide +kernel
theorem dX5_findStanding_84 : decode cX5_findStanding 84 = .ok (.invokestatic 60, 3) := by decide +kernel
theorem dX5_findStanding_87 : decode cX5_findStanding 87 = .ok (.aload_n 0, 1) := by decide +kernel
theorem dX5_findStanding_88 : decode cX5_findStanding 88 = .ok (.getfield 31, 3) := by decide +kernel
theorem dX5_findStanding_91 : decode cX5_findStanding 91 = .ok (.iconst 0, 1) := by decide +kernel
theorem dX5_findStanding_92 : decode cX5_findStanding 92 = .ok (.iaload, 1) := by decide +kernel
theorem dX5_findStanding_93 : decode cX5_findStanding 93 = .ok (.if_icmp .gt 7, 3) := by decide +kernel
theorem dX5_findStanding_96 : decode cX5_findStanding 96 = .ok (.iconst 1, 1) := by decide +kernel
theorem dX5_findStanding_97 : decode cX5_findStanding 97 = .ok (.goto 4, 3) := by decide +kernel
theorem dX5_findStanding_100 : decode cX5_findStanding 100 = .ok (.iconst 0, 1) := by decide +kernel
theorem dX5_findStanding_101 : decode cX5_findStanding 101 = .ok (.istore 5, 2) := by decide +kernel
theorem dX5_findStanding_103 : decode cX5_findStanding 103 = .ok (.aload_n 0, 1) := by decide +kernel
theorem dX5_findStanding_104 : decode cX5_findStanding 104 = .ok (.getfield 11, 3) := by decide +kernel
theorem dX5_findStanding_107 : decode cX5_findStanding 107 = .ok (.iload_n 1, 1) := by decide +kernel
theorem dX5_findStanding_108 : decode cX5_findStanding 108 = .ok (.aaload, 1) := by decide +kernel
theorem dX5_findStanding_109 : decode cX5_findStanding 109 = .ok (.iload_n 3, 1) := by decide +kernel
theorem dX5_findStanding_110 : decode cX5_findStanding 110 = .ok (.iload 5, 2) := by decide +kernel
theorem dX5_findStanding_112 : decode cX5_findStanding 112 = .ok (.ifCond .eq 8, 3) := by decide +kernel
theorem dX5_findStanding_115 : decode cX5_findStanding 115 = .ok (.iload 4, 2) := by decide +kernel
theorem dX5_findStanding_117 : decode cX5_findStanding 117 = .ok (.goto 5, 3) := by decide +kernel
theorem dX5_findStanding_120 : decode cX5_findStanding 120 = .ok (.bipush (-4), 2) := by decide +kernel
theorem dX5_findStanding_122 : decode cX5_findStanding 122 = .ok (.iastore, 1) := by decide +kernel
theorem dX5_findStanding_123 : decode cX5_findStanding 123 = .ok (.iinc 3 1, 3) := by decide +kernel
theorem dX5_findStanding_126 : decode cX5_findStanding 126 = .ok (.goto (-88), 3) := by decide +kernel
theorem dX5_findStanding_129 : decode cX5_findStanding 129 = .ok (.return_, 1) := by decide +kernel
theorem dX5_choose_0 : decode cX5_choose 0 = .ok (.iconst 0, 1) := by decide +kernel
theorem dX5_choose_1 : decode cX5_choose 1 = .ok (.istore_n 1, 1) := by decide +kernel
theorem dX5_choose_2 : decode cX5_choose 2 = .ok (.iload_n 1, 1) := by decide +kernel
theorem dX5_choose_3 : decode cX5_choose 3 = .ok (.bipush 6, 2) := by decide +kernel
theorem dX5_choose_5 : decode cX5_choose 5 = .ok (.if_icmp .ge 14, 3) := by decide +kernel
theorem dX5_choose_8 : decode cX5_choose 8 = .ok (.aload_n 0, 1) := by decide +kernel
theorem dX5_choose_9 : decode cX5_choose 9 = .ok (.iload_n 1, 1) := by decide +kernel
theorem dX5_choose_10 : decode cX5_choose 10 = .ok (.invokevirtual 66, 3) := by decide +kernel
theorem dX5_choose_13 : decode cX5_choose 13 = .ok (.iinc 1 1, 3) := by decide +kernel
theorem dX5_choose_16 : decode cX5_choose 16 = .ok (.goto (-14), 3) := by decide +kernel
theorem dX5_choose_19 : decode cX5_choose 19 = .ok (.aload_n 0, 1) := by decide +kernel
theorem dX5_choose_20 : decode cX5_choose 20 = .ok (.invokevirtual 70, 3) := by decide +kernel
theorem dX5_choose_23 : decode cX5_choose 23 = .ok (.aload_n 0, 1) := by decide +kernel
theorem dX5_choose_24 : decode cX5_choose 24 = .ok (.iconst 0, 1) := by decide +kernel
theorem dX5_choose_25 : decode cX5_choose 25 = .ok (.putfield 73, 3) := by decide +kernel
theorem dX5_choose_28 : decode cX5_choose 28 = .ok (.iconst 0, 1) := by decide +kernel
theorem dX5_choose_29 : decode cX5_choose 29 = .ok (.istore_n 1, 1) := by decide +kernel
theorem dX5_choose_30 : decode cX5_choose 30 = .ok (.iload_n 1, 1) := by decide +kernel
theorem dX5_choose_31 : decode cX5_choose 31 = .ok (.aload_n 0, 1) := by decide +kernel
theorem dX5_choose_32 : decode cX5_choose 32 = .ok (.getfield 23, 3) := by decide +kernel
theorem dX5_choose_35 : decode cX5_choose 35 = .ok (.getfield 43, 3) := by decide +kernel
theorem dX5_choose_38 : decode cX5_choose 38 = .ok (.if_icmp .ge 72, 3) := by decide +kernel
theorem dX5_choose_41 : decode cX5_choose 41 = .ok (.iload_n 1, 1) := by decide +kernel
theorem dX5_choose_42 : decode cX5_choose 42 = .ok (.ifCond .ne 8, 3) := by decide +kernel
theorem dX5_choose_45 : decode cX5_choose 45 = .ok (.bipush 6, 2) := by decide +kernel
theorem dX5_choose_47 : decode cX5_choose 47 = .ok (.goto 11, 3) := by decide +kernel
theorem dX5_choose_50 : decode cX5_choose 50 = .ok (.aload_n 0, 1) := by decide +kernel
theorem dX5_choose_51 : decode cX5_choose 51 = .ok (.getfield 19, 3) := by decide +kernel
theorem dX5_choose_54 : decode cX5_choose 54 = .ok (.iload_n 1, 1) := by decide +kernel
theorem dX5_choose_55 : decode cX5_choose 55 = .ok (.iconst 1, 1) := by decide +kernel
theorem dX5_choose_56 : decode cX5_choose 56 = .ok (.isub, 1) := by decide +kernel
theorem dX5_choose_57 : decode cX5_choose 57 = .ok (.iaload, 1) := by decide +kernel
theorem dX5_choose_58 : decode cX5_choose 58 = .ok (.istore_n 2, 1) := by decide +kernel
theorem dX5_choose_59 : decode cX5_choose 59 = .ok (.aload_n 0, 1) := by decide +kernel
theorem dX5_choose_60 : decode cX5_choose 60 = .ok (.getfield 19, 3) := by decide +kernel
theorem dX5_choose_63 : decode cX5_choose 63 = .ok (.iload_n 1, 1) := by decide +kernel
theorem dX5_choose_64 : decode cX5_choose 64 = .ok (.aload_n 0, 1) := by decide +kernel
theorem dX5_choose_65 : decode cX5_choose 65 = .ok (.iload_n 1, 1) := by decide +kernel
theorem dX5_choose_66 : decode cX5_choose 66 = .ok (.iload_n 2, 1) := by decide +kernel
theorem dX5_choose_67 : decode cX5_choose 67 = .ok (.invokevirtual 76, 3) := by decide +kernel
theorem dX5_choose_70 : decode cX5_choose 70 = .ok (.iastore, 1) := by decide +kernel
theorem dX5_choose_71 : decode cX5_choose 71 = .ok (.aload_n 0, 1) := by decide +kernel
theorem dX5_choose_72 : decode cX5_choose 72 = .ok (.dup, 1) := by decide +kernel
theorem dX5_choose_73 : decode cX5_choose 73 = .ok (.getfield 73, 3) := by decide +kernel
theorem dX5_choose_76 : decode cX5_choose 76 = .ok (.aload_n 0, 1) := by decide +kernel
theorem dX5_choose_77 : decode cX5_choose 77 = .ok (.iload_n 1, 1) := by decide +kernel
theorem dX5_choose_78 : decode cX5_choose 78 = .ok (.iload_n 2, 1) := by decide +kernel
theorem dX5_choose_79 : decode cX5_choose 79 = .ok (.aload_n 0, 1) := by decide +kernel
theorem dX5_choose_80 : decode cX5_choose 80 = .ok (.getfield 19, 3) := by decide +kernel
theorem dX5_choose_83 : decode cX5_choose 83 = .ok (.iload_n 1, 1) := by decide +kernel
theorem dX5_choose_84 : decode cX5_choose 84 = .ok (.iaload, 1) := by decide +kernel
theorem dX5_choose_85 : decode cX5_choose 85 = .ok (.invokevirtual 80, 3) := by decide +kernel
theorem dX5_choose_88 : decode cX5_choose 88 = .ok (.aload_n 0, 1) := by decide +kernel
theorem dX5_choose_89 : decode cX5_choose 89 = .ok (.iload_n 1, 1) := by decide +kernel
theorem dX5_choose_90 : decode cX5_choose 90 = .ok (.aload_n 0, 1) := by decide +kernel
theorem dX5_choose_91 : decode cX5_choose 91 = .ok (.getfield 19, 3) := by decide +kernel
theorem dX5_choose_94 : decode cX5_choose 94 = .ok (.iload_n 1, 1) := by decide +kernel
theorem dX5_choose_95 : decode cX5_choose 95 = .ok (.iaload, 1) := by decide +kernel
theorem dX5_choose_96 : decode cX5_choose 96 = .ok (.invokevirtual 84, 3) := by decide +kernel
theorem dX5_choose_99 : decode cX5_choose 99 = .ok (.iadd, 1) := by decide +kernel
theorem dX5_choose_100 : decode cX5_choose 100 = .ok (.iadd, 1) := by decide +kernel
theorem dX5_choose_101 : decode cX5_choose 101 = .ok (.putfield 73, 3) := by decide +kernel
theorem dX5_choose_104 : decode cX5_choose 104 = .ok (.iinc 1 1, 3) := by decide +kernel
theorem dX5_choose_107 : decode cX5_choose 107 = .ok (.goto (-77), 3) := by decide +kernel
theorem dX5_choose_110 : decode cX5_choose 110 = .ok (.return_, 1) := by decide +kernel
theorem dX5_fillLeast_0 : decode cX5_fillLeast 0 = .ok (.aload_n 0, 1) := by decide +kernel
theorem dX5_fillLeast_1 : decode cX5_fillLeast 1 = .ok (.getfield 23, 3) := by decide +kernel
theorem dX5_fillLeast_4 : decode cX5_fillLeast 4 = .ok (.getfield 43, 3) := by decide +kernel
theorem dX5_fillLeast_7 : decode cX5_fillLeast 7 = .ok (.iconst 1, 1) := by decide +kernel
theorem dX5_fillLeast_8 : decode cX5_fillLeast 8 = .ok (.isub, 1) := by decide +kernel
theorem dX5_fillLeast_9 : decode cX5_fillLeast 9 = .ok (.istore_n 1, 1) := by decide +kernel
theorem dX5_fillLeast_10 : decode cX5_fillLeast 10 = .ok (.iload_n 1, 1) := by decide +kernel
theorem dX5_fillLeast_11 : decode cX5_fillLeast 11 = .ok (.ifCond .lt 58, 3) := by decide +kernel
theorem dX5_fillLeast_14 : decode cX5_fillLeast 14 = .ok (.iconst 0, 1) := by decide +kernel
theorem dX5_fillLeast_15 : decode cX5_fillLeast 15 = .ok (.istore_n 2, 1) := by decide +kernel
theorem dX5_fillLeast_16 : decode cX5_fillLeast 16 = .ok (.iload_n 2, 1) := by decide +kernel
theorem dX5_fillLeast_17 : decode cX5_fillLeast 17 = .ok (.bipush 6, 2) := by decide +kernel
theorem dX5_fillLeast_19 : decode cX5_fillLeast 19 = .ok (.if_icmp .gt 44, 3) := by decide +kernel
theorem dX5_fillLeast_22 : decode cX5_fillLeast 22 = .ok (.aload_n 0, 1) := by decide +kernel
theorem dX5_fillLeast_23 : decode cX5_fillLeast 23 = .ok (.getfield 16, 3) := by decide +kernel
theorem dX5_fillLeast_26 : decode cX5_fillLeast 26 = .ok (.iload_n 1, 1) := by decide +kernel
theorem dX5_fillLeast_27 : decode cX5_fillLeast 27 = .ok (.aaload, 1) := by decide +kernel
theorem dX5_fillLeast_28 : decode cX5_fillLeast 28 = .ok (.iload_n 2, 1) := by decide +kernel
theorem dX5_fillLeast_29 : decode cX5_fillLeast 29 = .ok (.aload_n 0, 1) := by decide +kernel
theorem dX5_fillLeast_30 : decode cX5_fillLeast 30 = .ok (.iload_n 1, 1) := by decide +kernel
theorem dX5_fillLeast_31 : decode cX5_fillLeast 31 = .ok (.iload_n 2, 1) := by decide +kernel
theorem dX5_fillLeast_32 : decode cX5_fillLeast 32 = .ok (.invokevirtual 87, 3) := by decide +kernel
theorem dX5_fillLeast_35 : decode cX5_fillLeast 35 = .ok (.ifCond .eq 19, 3) := by decide +kernel
theorem dX5_fillLeast_38 : decode cX5_fillLeast 38 = .ok (.aload_n 0, 1) := by decide +kernel
theorem dX5_fillLeast_39 : decode cX5_fillLeast 39 = .ok (.iload_n 1, 1) := by decide +kernel
theorem dX5_fillLeast_40 : decode cX5_fillLeast 40 = .ok (.iload_n 2, 1) := by decide +kernel
theorem dX5_fillLeast_41 : decode cX5_fillLeast 41 = .ok (.invokevirtual 84, 3) := by decide +kernel
theorem dX5_fillLeast_44 : decode cX5_fillLeast 44 = .ok (.aload_n 0, 1) := by decide +kernel
theorem dX5_fillLeast_45 : decode cX5_fillLeast 45 = .ok (.iload_n 1, 1) := by decide +kernel
theorem dX5_fillLeast_46 : decode cX5_fillLeast 46 = .ok (.iload_n 2, 1) := by decide +kernel
theorem dX5_fillLeast_47 : decode cX5_fillLeast 47 = .ok (.invokevirtual 91, 3) := by decide +kernel
theorem dX5_fillLeast_50 : decode cX5_fillLeast 50 = .ok (.iadd, 1) := by decide +kernel
theorem dX5_fillLeast_51 : decode cX5_fillLeast 51 = .ok (.goto 5, 3) := by decide +kernel
theorem dX5_fillLeast_54 : decode cX5_fillLeast 54 = .ok (.ldc 94, 2) := by decide +kernel
theorem dX5_fillLeast_56 : decode cX5_fillLeast 56 = .ok (.iastore, 1) := by decide +kernel
theorem dX5_fillLeast_57 : decode cX5_fillLeast 57 = .ok (.iinc 2 1, 3) := by decide +kernel
theorem dX5_fillLeast_60 : decode cX5_fillLeast 60 = .ok (.goto (-44), 3) := by decide +kernel
theorem dX5_fillLeast_63 : decode cX5_fillLeast 63 = .ok (.iinc 1 (-1), 3) := by decide +kernel
theorem dX5_fillLeast_66 : decode cX5_fillLeast 66 = .ok (.goto (-56), 3) := by decide +kernel
theorem dX5_fillLeast_69 : decode cX5_fillLeast 69 = .ok (.return_, 1) := by decide +kernel
theorem dX5_leastBehind_0 : decode cX5_leastBehind 0 = .ok (.iload_n 1, 1) := by decide +kernel
theorem dX5_leastBehind_1 : decode cX5_leastBehind 1 = .ok (.iconst 1, 1) := by decide +kernel
theorem dX5_leastBehind_2 : decode cX5_leastBehind 2 = .ok (.iadd, 1) := by decide +kernel
theorem dX5_leastBehind_3 : decode cX5_leastBehind 3 = .ok (.istore_n 3, 1) := by decide +kernel
theorem dX5_leastBehind_4 : decode cX5_leastBehind 4 = .ok (.iload_n 3, 1) := by decide +kernel
theorem dX5_leastBehind_5 : decode cX5_leastBehind 5 = .ok (.aload_n 0, 1) := by decide +kernel
theorem dX5_leastBehind_6 : decode cX5_leastBehind 6 = .ok (.getfield 23, 3) := by decide +kernel
theorem dX5_leastBehind_9 : decode cX5_leastBehind 9 = .ok (.getfield 43, 3) := by decide +kernel
theorem dX5_leastBehind_12 : decode cX5_leastBehind 12 = .ok (.if_icmp .lt 5, 3) := by decide +kernel
theorem dX5_leastBehind_15 : decode cX5_leastBehind 15 = .ok (.iconst 0, 1) := by decide +kernel
theorem dX5_leastBehind_16 : decode cX5_leastBehind 16 = .ok (.ireturn, 1) := by decide +kernel
theorem dX5_leastBehind_17 : decode cX5_leastBehind 17 = .ok (.aload_n 0, 1) := by decide +kernel
theorem dX5_leastBehind_18 : decode cX5_leastBehind 18 = .ok (.iload_n 3, 1) := by decide +kernel
theorem dX5_leastBehind_19 : decode cX5_leastBehind 19 = .ok (.iload_n 2, 1) := by decide +kernel
theorem dX5_leastBehind_20 : decode cX5_leastBehind 20 = .ok (.invokevirtual 76, 3) := by decide +kernel
theorem dX5_leastBehind_23 : decode cX5_leastBehind 23 = .ok (.istore 4, 2) := by decide +kernel
theorem dX5_leastBehind_25 : decode cX5_leastBehind 25 = .ok (.aload_n 0, 1) := by decide +kernel
theorem dX5_leastBehind_26 : decode cX5_leastBehind 26 = .ok (.iload_n 3, 1) := by decide +kernel
theorem dX5_leastBehind_27 : decode cX5_leastBehind 27 = .ok (.iload_n 2, 1) := by decide +kernel
theorem dX5_leastBehind_28 : decode cX5_leastBehind 28 = .ok (.iload 4, 2) := by decide +kernel
theorem dX5_leastBehind_30 : decode cX5_leastBehind 30 = .ok (.invokevirtual 80, 3) := by decide +kernel
theorem dX5_leastBehind_33 : decode cX5_leastBehind 33 = .ok (.aload_n 0, 1) := by decide +kernel
theorem dX5_leastBehind_34 : decode cX5_leastBehind 34 = .ok (.getfield 16, 3) := by decide +kernel
theorem dX5_leastBehind_37 : decode cX5_leastBehind 37 = .ok (.iload_n 3, 1) := by decide +kernel
theorem dX5_leastBehind_38 : decode cX5_leastBehind 38 = .ok (.aaload, 1) := by decide +kernel
theorem dX5_leastBehind_39 : decode cX5_leastBehind 39 = .ok (.iload 4, 2) := by decide +kernel
theorem dX5_leastBehind_41 : decode cX5_leastBehind 41 = .ok (.iaload, 1) := by decide +kernel
theorem dX5_leastBehind_42 : decode cX5_leastBehind 42 = .ok (.iadd, 1) := by decide +kernel
theorem dX5_leastBehind_43 : decode cX5_leastBehind 43 = .ok (.ireturn, 1) := by decide +kernel
theorem dX5_bestSource_0 : decode cX5_bestSource 0 = .ok (.bipush 6, 2) := by decide +kernel
theorem dX5_bestSource_2 : decode cX5_bestSource 2 = .ok (.istore_n 3, 1) := by decide +kernel
theorem dX5_bestSource_3 : decode cX5_bestSource 3 = .ok (.ldc 94, 2) := by decide +kernel
theorem dX5_bestSource_5 : decode cX5_bestSource 5 = .ok (.istore 4, 2) := by decide +kernel
theorem dX5_bestSource_7 : decode cX5_bestSource 7 = .ok (.iconst 0, 1) := by decide +kernel
theorem dX5_bestSource_8 : decode cX5_bestSource 8 = .ok (.istore 5, 2) := by decide +kernel
theorem dX5_bestSource_10 : decode cX5_bestSource 10 = .ok (.iload 5, 2) := by decide +kernel
theorem dX5_bestSource_12 : decode cX5_bestSource 12 = .ok (.bipush 6, 2) := by decide +kernel
theorem dX5_bestSource_14 : decode cX5_bestSource 14 = .ok (.if_icmp .gt 53, 3) := by decide +kernel
theorem dX5_bestSource_17 : decode cX5_bestSource 17 = .ok (.aload_n 0, 1) := by decide +kernel
theorem dX5_bestSource_18 : decode cX5_bestSource 18 = .ok (.iload_n 1, 1) := by decide +kernel
theorem dX5_bestSource_19 : decode cX5_bestSource 19 = .ok (.iload 5, 2) := by decide +kernel
theorem dX5_bestSource_21 : decode cX5_bestSource 21 = .ok (.invokevirtual 87, 3) := by decide +kernel
theorem dX5_bestSource_24 : decode cX5_bestSource 24 = .ok (.ifCond .eq 37, 3) := by decide +kernel
theorem dX5_bestSource_27 : decode cX5_bestSource 27 = .ok (.aload_n 0, 1) := by decide +kernel
theorem dX5_bestSource_28 : decode cX5_bestSource 28 = .ok (.iload_n 1, 1) := by decide +kernel
theorem dX5_bestSource_29 : decode cX5_bestSource 29 = .ok (.iload_n 2, 1) := by decide +kernel
theorem dX5_bestSource_30 : decode cX5_bestSource 30 = .ok (.iload 5, 2) := by decide +kernel
theorem dX5_bestSource_32 : decode cX5_bestSource 32 = .ok (.invokevirtual 80, 3) := by decide +kernel
theorem dX5_bestSource_35 : decode cX5_bestSource 35 = .ok (.aload_n 0, 1) := by decide +kernel
theorem dX5_bestSource_36 : decode cX5_bestSource 36 = .ok (.getfield 16, 3) := by decide +kernel
theorem dX5_bestSource_39 : decode cX5_bestSource 39 = .ok (.iload_n 1, 1) := by decide +kernel
theorem dX5_bestSource_40 : decode cX5_bestSource 40 = .ok (.aaload, 1) := by decide +kernel
theorem dX5_bestSource_41 : decode cX5_bestSource 41 = .ok (.iload 5, 2) := by decide +kernel
theorem dX5_bestSource_43 : decode cX5_bestSource 43 = .ok (.iaload, 1) := by decide +kernel
theorem dX5_bestSource_44 : decode cX5_bestSource 44 = .ok (.iadd, 1) := by decide +kernel
theorem dX5_bestSource_45 : decode cX5_bestSource 45 = .ok (.istore 6, 2) := by decide +kernel
theorem dX5_bestSource_47 : decode cX5_bestSource 47 = .ok (.iload 6, 2) := by decide +kernel
theorem dX5_bestSource_49 : decode cX5_bestSource 49 = .ok (.iload 4, 2) := by decide +kernel
theorem dX5_bestSource_51 : decode cX5_bestSource 51 = .ok (.if_icmp .ge 10, 3) := by decide +kernel
theorem dX5_bestSource_54 : decode cX5_bestSource 54 = .ok (.iload 6, 2) := by decide +kernel
theorem dX5_bestSource_56 : decode cX5_bestSource 56 = .ok (.istore 4, 2) := by decide +kernel
theorem dX5_bestSource_58 : decode cX5_bestSource 58 = .ok (.iload 5, 2) := by decide +kernel
theorem dX5_bestSource_60 : decode cX5_bestSource 60 = .ok (.istore_n 3, 1) := by decide +kernel
theorem dX5_bestSource_61 : decode cX5_bestSource 61 = .ok (.iinc 5 1, 3) := by decide +kernel
theorem dX5_bestSource_64 : decode cX5_bestSource 64 = .ok (.goto (-54), 3) := by decide +kernel
theorem dX5_bestSource_67 : decode cX5_bestSource 67 = .ok (.iload_n 3, 1) := by decide +kernel
theorem dX5_bestSource_68 : decode cX5_bestSource 68 = .ok (.ireturn, 1) := by decide +kernel
theorem dX5_canBe_0 : decode cX5_canBe 0 = .ok (.iload_n 2, 1) := by decide +kernel
theorem dX5_canBe_1 : decode cX5_canBe 1 = .ok (.bipush 6, 2) := by decide +kernel
theorem dX5_canBe_3 : decode cX5_canBe 3 = .ok (.if_icmp .eq 16, 3) := by decide +kernel
theorem dX5_canBe_6 : decode cX5_canBe 6 = .ok (.aload_n 0, 1) := by decide +kernel
theorem dX5_canBe_7 : decode cX5_canBe 7 = .ok (.getfield 11, 3) := by decide +kernel
theorem dX5_canBe_10 : decode cX5_canBe 10 = .ok (.iload_n 2, 1) := by decide +kernel
theorem dX5_canBe_11 : decode cX5_canBe 11 = .ok (.aaload, 1) := by decide +kernel
theorem dX5_canBe_12 : decode cX5_canBe 12 = .ok (.iload_n 1, 1) := by decide +kernel
theorem dX5_canBe_13 : decode cX5_canBe 13 = .ok (.iaload, 1) := by decide +kernel
theorem dX5_canBe_14 : decode cX5_canBe 14 = .ok (.bipush (-4), 2) := by decide +kernel
theorem dX5_canBe_16 : decode cX5_canBe 16 = .ok (.if_icmp .eq 7, 3) := by decide +kernel
theorem dX5_canBe_19 : decode cX5_canBe 19 = .ok (.iconst 1, 1) := by decide +kernel
theorem dX5_canBe_20 : decode cX5_canBe 20 = .ok (.goto 4, 3) := by decide +kernel
theorem dX5_canBe_23 : decode cX5_canBe 23 = .ok (.iconst 0, 1) := by decide +kernel
theorem dX5_canBe_24 : decode cX5_canBe 24 = .ok (.ireturn, 1) := by decide +kernel
theorem dX5_ownPrice_0 : decode cX5_ownPrice 0 = .ok (.iload_n 2, 1) := by decide +kernel
theorem dX5_ownPrice_1 : decode cX5_ownPrice 1 = .ok (.bipush 6, 2) := by decide +kernel
theorem dX5_ownPrice_3 : decode cX5_ownPrice 3 = .ok (.if_icmp .ne 12, 3) := by decide +kernel
theorem dX5_ownPrice_6 : decode cX5_ownPrice 6 = .ok (.aload_n 0, 1) := by decide +kernel
theorem dX5_ownPrice_7 : decode cX5_ownPrice 7 = .ok (.getfield 31, 3) := by decide +kernel
theorem dX5_ownPrice_10 : decode cX5_ownPrice 10 = .ok (.iconst 1, 1) := by decide +kernel
theorem dX5_ownPrice_11 : decode cX5_ownPrice 11 = .ok (.iaload, 1) := by decide +kernel
theorem dX5_ownPrice_12 : decode cX5_ownPrice 12 = .ok (.goto 21, 3) := by decide +kernel
theorem dX5_ownPrice_15 : decode cX5_ownPrice 15 = .ok (.aload_n 0, 1) := by decide +kernel
theorem dX5_ownPrice_16 : decode cX5_ownPrice 16 = .ok (.getfield 27, 3) := by decide +kernel
theorem dX5_ownPrice_19 : decode cX5_ownPrice 19 = .ok (.iload_n 2, 1) := by decide +kernel
theorem dX5_ownPrice_20 : decode cX5_ownPrice 20 = .ok (.aaload, 1) := by decide +kernel
theorem dX5_ownPrice_21 : decode cX5_ownPrice 21 = .ok (.getfield 95, 3) := by decide +kernel
theorem dX5_ownPrice_24 : decode cX5_ownPrice 24 = .ok (.aload_n 0, 1) := by decide +kernel
theorem dX5_ownPrice_25 : decode cX5_ownPrice 25 = .ok (.getfield 11, 3) := by decide +kernel
theorem dX5_ownPrice_28 : decode cX5_ownPrice 28 = .ok (.iload_n 2, 1) := by decide +kernel
theorem dX5_ownPrice_29 : decode cX5_ownPrice 29 = .ok (.aaload, 1) := by decide +kernel
theorem dX5_ownPrice_30 : decode cX5_ownPrice 30 = .ok (.iload_n 1, 1) := by decide +kernel
theorem dX5_ownPrice_31 : decode cX5_ownPrice 31 = .ok (.iaload, 1) := by decide +kernel
theorem dX5_ownPrice_32 : decode cX5_ownPrice 32 = .ok (.iaload, 1) := by decide +kernel
theorem dX5_ownPrice_33 : decode cX5_ownPrice 33 = .ok (.ireturn, 1) := by decide +kernel
theorem dX5_joinPrice_0 : decode cX5_joinPrice 0 = .ok (.aload_n 0, 1) := by decide +kernel
theorem dX5_joinPrice_1 : decode cX5_joinPrice 1 = .ok (.iload_n 1, 1) := by decide +kernel
theorem dX5_joinPrice_2 : decode cX5_joinPrice 2 = .ok (.iload_n 2, 1) := by decide +kernel
theorem dX5_joinPrice_3 : decode cX5_joinPrice 3 = .ok (.iload_n 3, 1) := by decide +kernel
theorem dX5_joinPrice_4 : decode cX5_joinPrice 4 = .ok (.invokevirtual 98, 3) := by decide +kernel
theorem dX5_joinPrice_7 : decode cX5_joinPrice 7 = .ok (.ifCond .ne 5, 3) := by decide +kernel
theorem dX5_joinPrice_10 : decode cX5_joinPrice 10 = .ok (.iconst 0, 1) := by decide +kernel
theorem dX5_joinPrice_11 : decode cX5_joinPrice 11 = .ok (.ireturn, 1) := by decide +kernel
theorem dX5_joinPrice_12 : decode cX5_joinPrice 12 = .ok (.iload_n 2, 1) := by decide +kernel
theorem dX5_joinPrice_13 : decode cX5_joinPrice 13 = .ok (.iload_n 3, 1) := by decide +kernel
theorem dX5_joinPrice_14 : decode cX5_joinPrice 14 = .ok (.if_icmp .eq 12, 3) := by decide +kernel
theorem dX5_joinPrice_17 : decode cX5_joinPrice 17 = .ok (.aload_n 0, 1) := by decide +kernel
theorem dX5_joinPrice_18 : decode cX5_joinPrice 18 = .ok (.getfield 31, 3) := by decide +kernel
theorem dX5_joinPrice_21 : decode cX5_joinPrice 21 = .ok (.iconst 2, 1) := by decide +kernel
theorem dX5_joinPrice_22 : decode cX5_joinPrice 22 = .ok (.iaload, 1) := by decide +kernel
theorem dX5_joinPrice_23 : decode cX5_joinPrice 23 = .ok (.goto 4, 3) := by decide +kernel
theorem dX5_joinPrice_26 : decode cX5_joinPrice 26 = .ok (.iconst 0, 1) := by decide +kernel
theorem dX5_joinPrice_27 : decode cX5_joinPrice 27 = .ok (.istore 4, 2) := by decide +kernel
theorem dX5_joinPrice_29 : decode cX5_joinPrice 29 = .ok (.aload_n 0, 1) := by decide +kernel
theorem dX5_joinPrice_30 : decode cX5_joinPrice 30 = .ok (.iload_n 1, 1) := by decide +kernel
theorem dX5_joinPrice_31 : decode cX5_joinPrice 31 = .ok (.iconst 1, 1) := by decide +kernel
theorem dX5_joinPrice_32 : decode cX5_joinPrice 32 = .ok (.isub, 1) := by decide +kernel
theorem dX5_joinPrice_33 : decode cX5_joinPrice 33 = .ok (.iload_n 2, 1) := by decide +kernel
theorem dX5_joinPrice_34 : decode cX5_joinPrice 34 = .ok (.invokevirtual 102, 3) := by decide +kernel
theorem dX5_joinPrice_37 : decode cX5_joinPrice 37 = .ok (.aload_n 0, 1) := by decide +kernel
theorem dX5_joinPrice_38 : decode cX5_joinPrice 38 = .ok (.iload_n 1, 1) := by decide +kernel
theorem dX5_joinPrice_39 : decode cX5_joinPrice 39 = .ok (.iload_n 3, 1) := by decide +kernel
theorem dX5_joinPrice_40 : decode cX5_joinPrice 40 = .ok (.invokevirtual 102, 3) := by decide +kernel
theorem dX5_joinPrice_43 : decode cX5_joinPrice 43 = .ok (.if_icmp .eq 12, 3) := by decide +kernel
theorem dX5_joinPrice_46 : decode cX5_joinPrice 46 = .ok (.aload_n 0, 1) := by decide +kernel
theorem dX5_joinPrice_47 : decode cX5_joinPrice 47 = .ok (.getfield 31, 3) := by decide +kernel
theorem dX5_joinPrice_50 : decode cX5_joinPrice 50 = .ok (.iconst 3, 1) := by decide +kernel
theorem dX5_joinPrice_51 : decode cX5_joinPrice 51 = .ok (.iaload, 1) := by decide +kernel
theorem dX5_joinPrice_52 : decode cX5_joinPrice 52 = .ok (.goto 4, 3) := by decide +kernel
theorem dX5_joinPrice_55 : decode cX5_joinPrice 55 = .ok (.iconst 0, 1) := by decide +kernel
theorem dX5_joinPrice_56 : decode cX5_joinPrice 56 = .ok (.istore 5, 2) := by decide +kernel
theorem dX5_joinPrice_58 : decode cX5_joinPrice 58 = .ok (.iload 4, 2) := by decide +kernel
theorem dX5_joinPrice_60 : decode cX5_joinPrice 60 = .ok (.iload 5, 2) := by decide +kernel
theorem dX5_joinPrice_62 : decode cX5_joinPrice 62 = .ok (.iadd, 1) := by decide +kernel
theorem dX5_joinPrice_63 : decode cX5_joinPrice 63 = .ok (.ireturn, 1) := by decide +kernel
theorem dX5_isJoined_0 : decode cX5_isJoined 0 = .ok (.iload_n 1, 1) := by decide +kernel
theorem dX5_isJoined_1 : decode cX5_isJoined 1 = .ok (.ifCond .le 42, 3) := by decide +kernel
theorem dX5_isJoined_4 : decode cX5_isJoined 4 = .ok (.iload_n 2, 1) := by decide +kernel
theorem dX5_isJoined_5 : decode cX5_isJoined 5 = .ok (.bipush 6, 2) := by decide +kernel
theorem dX5_isJoined_7 : decode cX5_isJoined 7 = .ok (.if_icmp .eq 36, 3) := by decide +kernel
theorem dX5_isJoined_10 : decode cX5_isJoined 10 = .ok (.iload_n 3, 1) := by decide +kernel
theorem dX5_isJoined_11 : decode cX5_isJoined 11 = .ok (.bipush 6, 2) := by decide +kernel
theorem dX5_isJoined_13 : decode cX5_isJoined 13 = .ok (.if_icmp .eq 30, 3) := by decide +kernel
theorem dX5_isJoined_16 : decode cX5_isJoined 16 = .ok (.aload_n 0, 1) := by decide +kernel
theorem dX5_isJoined_17 : decode cX5_isJoined 17 = .ok (.getfield 23, 3) := by decide +kernel
theorem dX5_isJoined_20 : decode cX5_isJoined 20 = .ok (.getfield 105, 3) := by decide +kernel
theorem dX5_isJoined_23 : decode cX5_isJoined 23 = .ok (.iload_n 1, 1) := by decide +kernel
theorem dX5_isJoined_24 : decode cX5_isJoined 24 = .ok (.iconst 1, 1) := by decide +kernel
theorem dX5_isJoined_25 : decode cX5_isJoined 25 = .ok (.isub, 1) := by decide +kernel
theorem dX5_isJoined_26 : decode cX5_isJoined 26 = .ok (.iaload, 1) := by decide +kernel
theorem dX5_isJoined_27 : decode cX5_isJoined 27 = .ok (.aload_n 0, 1) := by decide +kernel
theorem dX5_isJoined_28 : decode cX5_isJoined 28 = .ok (.getfield 23, 3) := by decide +kernel
theorem dX5_isJoined_31 : decode cX5_isJoined 31 = .ok (.getfield 105, 3) := by decide +kernel
theorem dX5_isJoined_34 : decode cX5_isJoined 34 = .ok (.iload_n 1, 1) := by decide +kernel
theorem dX5_isJoined_35 : decode cX5_isJoined 35 = .ok (.iaload, 1) := by decide +kernel
theorem dX5_isJoined_36 : decode cX5_isJoined 36 = .ok (.if_icmp .ne 7, 3) := by decide +kernel
theorem dX5_isJoined_39 : decode cX5_isJoined 39 = .ok (.iconst 1, 1) := by decide +kernel
theorem dX5_isJoined_40 : decode cX5_isJoined 40 = .ok (.goto 4, 3) := by decide +kernel
theorem dX5_isJoined_43 : decode cX5_isJoined 43 = .ok (.iconst 0, 1) := by decide +kernel
theorem dX5_isJoined_44 : decode cX5_isJoined 44 = .ok (.ireturn, 1) := by decide +kernel
theorem dX5_cameraOf_0 : decode cX5_cameraOf 0 = .ok (.aload_n 0, 1) := by decide +kernel
theorem dX5_cameraOf_1 : decode cX5_cameraOf 1 = .ok (.getfield 27, 3) := by decide +kernel
theorem dX5_cameraOf_4 : decode cX5_cameraOf 4 = .ok (.iload_n 2, 1) := by decide +kernel
theorem dX5_cameraOf_5 : decode cX5_cameraOf 5 = .ok (.aaload, 1) := by decide +kernel
theorem dX5_cameraOf_6 : decode cX5_cameraOf 6 = .ok (.getfield 108, 3) := by decide +kernel
theorem dX5_cameraOf_9 : decode cX5_cameraOf 9 = .ok (.aload_n 0, 1) := by decide +kernel
theorem dX5_cameraOf_10 : decode cX5_cameraOf 10 = .ok (.getfield 11, 3) := by decide +kernel
theorem dX5_cameraOf_13 : decode cX5_cameraOf 13 = .ok (.iload_n 2, 1) := by decide +kernel
theorem dX5_cameraOf_14 : decode cX5_cameraOf 14 = .ok (.aaload, 1) := by decide +kernel
theorem dX5_cameraOf_15 : decode cX5_cameraOf 15 = .ok (.iload_n 1, 1) := by decide +kernel
theorem dX5_cameraOf_16 : decode cX5_cameraOf 16 = .ok (.iaload, 1) := by decide +kernel
theorem dX5_cameraOf_17 : decode cX5_cameraOf 17 = .ok (.iaload, 1) := by decide +kernel
theorem dX5_cameraOf_18 : decode cX5_cameraOf 18 = .ok (.ireturn, 1) := by decide +kernel
theorem dX5_changesCopy_0 : decode cX5_changesCopy 0 = .ok (.iload_n 1, 1) := by decide +kernel
theorem dX5_changesCopy_1 : decode cX5_changesCopy 1 = .ok (.ifCond .le 46, 3) := by decide +kernel
theorem dX5_changesCopy_4 : decode cX5_changesCopy 4 = .ok (.aload_n 0, 1) := by decide +kernel
theorem dX5_changesCopy_5 : decode cX5_changesCopy 5 = .ok (.iload_n 1, 1) := by decide +kernel
theorem dX5_changesCopy_6 : decode cX5_changesCopy 6 = .ok (.aload_n 0, 1) := by decide +kernel
theorem dX5_changesCopy_7 : decode cX5_changesCopy 7 = .ok (.getfield 19, 3) := by decide +kernel
theorem dX5_changesCopy_10 : decode cX5_changesCopy 10 = .ok (.iload_n 1, 1) := by decide +kernel
theorem dX5_changesCopy_11 : decode cX5_changesCopy 11 = .ok (.iconst 1, 1) := by decide +kernel
theorem dX5_changesCopy_12 : decode cX5_changesCopy 12 = .ok (.isub, 1) := by decide +kernel
theorem dX5_changesCopy_13 : decode cX5_changesCopy 13 = .ok (.iaload, 1) := by decide +kernel
theorem dX5_changesCopy_14 : decode cX5_changesCopy 14 = .ok (.aload_n 0, 1) := by decide +kernel
theorem dX5_changesCopy_15 : decode cX5_changesCopy 15 = .ok (.getfield 19, 3) := by decide +kernel
theorem dX5_changesCopy_18 : decode cX5_changesCopy 18 = .ok (.iload_n 1, 1) := by decide +kernel
theorem dX5_changesCopy_19 : decode cX5_changesCopy 19 = .ok (.iaload, 1) := by decide +kernel
theorem dX5_changesCopy_20 : decode cX5_changesCopy 20 = .ok (.invokevirtual 98, 3) := by decide +kernel
theorem dX5_changesCopy_23 : decode cX5_changesCopy 23 = .ok (.ifCond .eq 24, 3) := by decide +kernel
theorem dX5_changesCopy_26 : decode cX5_changesCopy 26 = .ok (.aload_n 0, 1) := by decide +kernel
theorem dX5_changesCopy_27 : decode cX5_changesCopy 27 = .ok (.getfield 19, 3) := by decide +kernel
theorem dX5_changesCopy_30 : decode cX5_changesCopy 30 = .ok (.iload_n 1, 1) := by decide +kernel
theorem dX5_changesCopy_31 : decode cX5_changesCopy 31 = .ok (.iconst 1, 1) := by decide +kernel
theorem dX5_changesCopy_32 : decode cX5_changesCopy 32 = .ok (.isub, 1) := by decide +kernel
theorem dX5_changesCopy_33 : decode cX5_changesCopy 33 = .ok (.iaload, 1) := by decide +kernel
theorem dX5_changesCopy_34 : decode cX5_changesCopy 34 = .ok (.aload_n 0, 1) := by decide +kernel
theorem dX5_changesCopy_35 : decode cX5_changesCopy 35 = .ok (.getfield 19, 3) := by decide +kernel
theorem dX5_changesCopy_38 : decode cX5_changesCopy 38 = .ok (.iload_n 1, 1) := by decide +kernel
theorem dX5_changesCopy_39 : decode cX5_changesCopy 39 = .ok (.iaload, 1) := by decide +kernel
theorem dX5_changesCopy_40 : decode cX5_changesCopy 40 = .ok (.if_icmp .eq 7, 3) := by decide +kernel
theorem dX5_changesCopy_43 : decode cX5_changesCopy 43 = .ok (.iconst 1, 1) := by decide +kernel
theorem dX5_changesCopy_44 : decode cX5_changesCopy 44 = .ok (.goto 4, 3) := by decide +kernel
theorem dX5_changesCopy_47 : decode cX5_changesCopy 47 = .ok (.iconst 0, 1) := by decide +kernel
theorem dX5_changesCopy_48 : decode cX5_changesCopy 48 = .ok (.ireturn, 1) := by decide +kernel
theorem dX5_changesCamera_0 : decode cX5_changesCamera 0 = .ok (.iload_n 1, 1) := by decide +kernel
theorem dX5_changesCamera_1 : decode cX5_changesCamera 1 = .ok (.ifCond .le 58, 3) := by decide +kernel
theorem dX5_changesCamera_4 : decode cX5_changesCamera 4 = .ok (.aload_n 0, 1) := by decide +kernel
theorem dX5_changesCamera_5 : decode cX5_changesCamera 5 = .ok (.iload_n 1, 1) := by decide +kernel
theorem dX5_changesCamera_6 : decode cX5_changesCamera 6 = .ok (.aload_n 0, 1) := by decide +kernel
theorem dX5_changesCamera_7 : decode cX5_changesCamera 7 = .ok (.getfield 19, 3) := by decide +kernel
theorem dX5_changesCamera_10 : decode cX5_changesCamera 10 = .ok (.iload_n 1, 1) := by decide +kernel
theorem dX5_changesCamera_11 : decode cX5_changesCamera 11 = .ok (.iconst 1, 1) := by decide +kernel
theorem dX5_changesCamera_12 : decode cX5_changesCamera 12 = .ok (.isub, 1) := by decide +kernel
theorem dX5_changesCamera_13 : decode cX5_changesCamera 13 = .ok (.iaload, 1) := by decide +kernel
theorem dX5_changesCamera_14 : decode cX5_changesCamera 14 = .ok (.aload_n 0, 1) := by decide +kernel
theorem dX5_changesCamera_15 : decode cX5_changesCamera 15 = .ok (.getfield 19, 3) := by decide +kernel
theorem dX5_changesCamera_18 : decode cX5_changesCamera 18 = .ok (.iload_n 1, 1) := by decide +kernel
theorem dX5_changesCamera_19 : decode cX5_changesCamera 19 = .ok (.iaload, 1) := by decide +kernel
theorem dX5_changesCamera_20 : decode cX5_changesCamera 20 = .ok (.invokevirtual 98, 3) := by decide +kernel
theorem dX5_changesCamera_23 : decode cX5_changesCamera 23 = .ok (.ifCond .eq 36, 3) := by decide +kernel
theorem dX5_changesCamera_26 : decode cX5_changesCamera 26 = .ok (.aload_n 0, 1) := by decide +kernel
theorem dX5_changesCamera_27 : decode cX5_changesCamera 27 = .ok (.iload_n 1, 1) := by decide +kernel
theorem dX5_changesCamera_28 : decode cX5_changesCamera 28 = .ok (.iconst 1, 1) := by decide +kernel
theorem dX5_changesCamera_29 : decode cX5_changesCamera 29 = .ok (.isub, 1) := by decide +kernel
theorem dX5_changesCamera_30 : decode cX5_changesCamera 30 = .ok (.aload_n 0, 1) := by decide +kernel
theorem dX5_changesCamera_31 : decode cX5_changesCamera 31 = .ok (.getfield 19, 3) := by decide +kernel
theorem dX5_changesCamera_34 : decode cX5_changesCamera 34 = .ok (.iload_n 1, 1) := by decide +kernel
theorem dX5_changesCamera_35 : decode cX5_changesCamera 35 = .ok (.iconst 1, 1) := by decide +kernel
theorem dX5_changesCamera_36 : decode cX5_changesCamera 36 = .ok (.isub, 1) := by decide +kernel
theorem dX5_changesCamera_37 : decode cX5_changesCamera 37 = .ok (.iaload, 1) := by decide +kernel
theorem dX5_changesCamera_38 : decode cX5_changesCamera 38 = .ok (.invokevirtual 102, 3) := by decide +kernel
theorem dX5_changesCamera_41 : decode cX5_changesCamera 41 = .ok (.aload_n 0, 1) := by decide +kernel
theorem dX5_changesCamera_42 : decode cX5_changesCamera 42 = .ok (.iload_n 1, 1) := by decide +kernel
theorem dX5_changesCamera_43 : decode cX5_changesCamera 43 = .ok (.aload_n 0, 1) := by decide +kernel
theorem dX5_changesCamera_44 : decode cX5_changesCamera 44 = .ok (.getfield 19, 3) := by decide +kernel
theorem dX5_changesCamera_47 : decode cX5_changesCamera 47 = .ok (.iload_n 1, 1) := by decide +kernel
theorem dX5_changesCamera_48 : decode cX5_changesCamera 48 = .ok (.iaload, 1) := by decide +kernel
theorem dX5_changesCamera_49 : decode cX5_changesCamera 49 = .ok (.invokevirtual 102, 3) := by decide +kernel
theorem dX5_changesCamera_52 : decode cX5_changesCamera 52 = .ok (.if_icmp .eq 7, 3) := by decide +kernel
theorem dX5_changesCamera_55 : decode cX5_changesCamera 55 = .ok (.iconst 1, 1) := by decide +kernel
theorem dX5_changesCamera_56 : decode cX5_changesCamera 56 = .ok (.goto 4, 3) := by decide +kernel
theorem dX5_changesCamera_59 : decode cX5_changesCamera 59 = .ok (.iconst 0, 1) := by decide +kernel
theorem dX5_changesCamera_60 : decode cX5_changesCamera 60 = .ok (.ireturn, 1) := by decide +kernel
theorem dX5_canBeMended_0 : decode cX5_canBeMended 0 = .ok (.iload_n 1, 1) := by decide +kernel
theorem dX5_canBeMended_1 : decode cX5_canBeMended 1 = .ok (.ifCond .le 53, 3) := by decide +kernel
theorem dX5_canBeMended_4 : decode cX5_canBeMended 4 = .ok (.iload_n 1, 1) := by decide +kernel
theorem dX5_canBeMended_5 : decode cX5_canBeMended 5 = .ok (.iconst 1, 1) := by decide +kernel
theorem dX5_canBeMended_6 : decode cX5_canBeMended 6 = .ok (.iadd, 1) := by decide +kernel
theorem dX5_canBeMended_7 : decode cX5_canBeMended 7 = .ok (.aload_n 0, 1) := by decide +kernel
theorem dX5_canBeMended_8 : decode cX5_canBeMended 8 = .ok (.getfield 23, 3) := by decide +kernel
theorem dX5_canBeMended_11 : decode cX5_canBeMended 11 = .ok (.getfield 43, 3) := by decide +kernel
theorem dX5_canBeMended_14 : decode cX5_canBeMended 14 = .ok (.if_icmp .ge 40, 3) := by decide +kernel
theorem dX5_canBeMended_17 : decode cX5_canBeMended 17 = .ok (.aload_n 0, 1) := by decide +kernel
theorem dX5_canBeMended_18 : decode cX5_canBeMended 18 = .ok (.getfield 19, 3) := by decide +kernel
theorem dX5_canBeMended_21 : decode cX5_canBeMended 21 = .ok (.iload_n 1, 1) := by decide +kernel
theorem dX5_canBeMended_22 : decode cX5_canBeMended 22 = .ok (.iaload, 1) := by decide +kernel
theorem dX5_canBeMended_23 : decode cX5_canBeMended 23 = .ok (.bipush 6, 2) := by decide +kernel
theorem dX5_canBeMended_25 : decode cX5_canBeMended 25 = .ok (.if_icmp .eq 29, 3) := by decide +kernel
theorem dX5_canBeMended_28 : decode cX5_canBeMended 28 = .ok (.aload_n 0, 1) := by decide +kernel
theorem dX5_canBeMended_29 : decode cX5_canBeMended 29 = .ok (.iload_n 1, 1) := by decide +kernel
theorem dX5_canBeMended_30 : decode cX5_canBeMended 30 = .ok (.iconst 1, 1) := by decide +kernel
theorem dX5_canBeMended_31 : decode cX5_canBeMended 31 = .ok (.isub, 1) := by decide +kernel
theorem dX5_canBeMended_32 : decode cX5_canBeMended 32 = .ok (.iload_n 1, 1) := by decide +kernel
theorem dX5_canBeMended_33 : decode cX5_canBeMended 33 = .ok (.invokevirtual 111, 3) := by decide +kernel
theorem dX5_canBeMended_36 : decode cX5_canBeMended 36 = .ok (.ifCond .eq 18, 3) := by decide +kernel
theorem dX5_canBeMended_39 : decode cX5_canBeMended 39 = .ok (.aload_n 0, 1) := by decide +kernel
theorem dX5_canBeMended_40 : decode cX5_canBeMended 40 = .ok (.iload_n 1, 1) := by decide +kernel
theorem dX5_canBeMended_41 : decode cX5_canBeMended 41 = .ok (.iconst 1, 1) := by decide +kernel
theorem dX5_canBeMended_42 : decode cX5_canBeMended 42 = .ok (.iadd, 1) := by decide +kernel
theorem dX5_canBeMended_43 : decode cX5_canBeMended 43 = .ok (.iload_n 1, 1) := by decide +kernel
theorem dX5_canBeMended_44 : decode cX5_canBeMended 44 = .ok (.invokevirtual 111, 3) := by decide +kernel
theorem dX5_canBeMended_47 : decode cX5_canBeMended 47 = .ok (.ifCond .eq 7, 3) := by decide +kernel
theorem dX5_canBeMended_50 : decode cX5_canBeMended 50 = .ok (.iconst 1, 1) := by decide +kernel
theorem dX5_canBeMended_51 : decode cX5_canBeMended 51 = .ok (.goto 4, 3) := by decide +kernel
theorem dX5_canBeMended_54 : decode cX5_canBeMended 54 = .ok (.iconst 0, 1) := by decide +kernel
theorem dX5_canBeMended_55 : decode cX5_canBeMended 55 = .ok (.ireturn, 1) := by decide +kernel
theorem dX5_mends_0 : decode cX5_mends 0 = .ok (.aload_n 0, 1) := by decide +kernel
theorem dX5_mends_1 : decode cX5_mends 1 = .ok (.getfield 23, 3) := by decide +kernel
theorem dX5_mends_4 : decode cX5_mends 4 = .ok (.getfield 105, 3) := by decide +kernel
theorem dX5_mends_7 : decode cX5_mends 7 = .ok (.iload_n 1, 1) := by decide +kernel
theorem dX5_mends_8 : decode cX5_mends 8 = .ok (.iaload, 1) := by decide +kernel
theorem dX5_mends_9 : decode cX5_mends 9 = .ok (.aload_n 0, 1) := by decide +kernel
theorem dX5_mends_10 : decode cX5_mends 10 = .ok (.getfield 23, 3) := by decide +kernel
theorem dX5_mends_13 : decode cX5_mends 13 = .ok (.getfield 105, 3) := by decide +kernel
theorem dX5_mends_16 : decode cX5_mends 16 = .ok (.iload_n 2, 1) := by decide +kernel
theorem dX5_mends_17 : decode cX5_mends 17 = .ok (.iaload, 1) := by decide +kernel
theorem dX5_mends_18 : decode cX5_mends 18 = .ok (.if_icmp .ne 35, 3) := by decide +kernel
theorem dX5_mends_21 : decode cX5_mends 21 = .ok (.aload_n 0, 1) := by decide +kernel
theorem dX5_mends_22 : decode cX5_mends 22 = .ok (.getfield 19, 3) := by decide +kernel
theorem dX5_mends_25 : decode cX5_mends 25 = .ok (.iload_n 1, 1) := by decide +kernel
theorem dX5_mends_26 : decode cX5_mends 26 = .ok (.iaload, 1) := by decide +kernel
theorem dX5_mends_27 : decode cX5_mends 27 = .ok (.aload_n 0, 1) := by decide +kernel
theorem dX5_mends_28 : decode cX5_mends 28 = .ok (.getfield 19, 3) := by decide +kernel
theorem dX5_mends_31 : decode cX5_mends 31 = .ok (.iload_n 2, 1) := by decide +kernel
theorem dX5_mends_32 : decode cX5_mends 32 = .ok (.iaload, 1) := by decide +kernel
theorem dX5_mends_33 : decode cX5_mends 33 = .ok (.if_icmp .ne 20, 3) := by decide +kernel
theorem dX5_mends_36 : decode cX5_mends 36 = .ok (.aload_n 0, 1) := by decide +kernel
theorem dX5_mends_37 : decode cX5_mends 37 = .ok (.iload_n 1, 1) := by decide +kernel
theorem dX5_mends_38 : decode cX5_mends 38 = .ok (.invokevirtual 114, 3) := by decide +kernel
theorem dX5_mends_41 : decode cX5_mends 41 = .ok (.aload_n 0, 1) := by decide +kernel
theorem dX5_mends_42 : decode cX5_mends 42 = .ok (.iload_n 2, 1) := by decide +kernel
theorem dX5_mends_43 : decode cX5_mends 43 = .ok (.invokevirtual 114, 3) := by decide +kernel
theorem dX5_mends_46 : decode cX5_mends 46 = .ok (.if_icmp .ge 7, 3) := by decide +kernel
theorem dX5_mends_49 : decode cX5_mends 49 = .ok (.iconst 1, 1) := by decide +kernel
theorem dX5_mends_50 : decode cX5_mends 50 = .ok (.goto 4, 3) := by decide +kernel
theorem dX5_mends_53 : decode cX5_mends 53 = .ok (.iconst 0, 1) := by decide +kernel
theorem dX5_mends_54 : decode cX5_mends 54 = .ok (.ireturn, 1) := by decide +kernel
theorem dX5_frameOf_0 : decode cX5_frameOf 0 = .ok (.aload_n 0, 1) := by decide +kernel
theorem dX5_frameOf_1 : decode cX5_frameOf 1 = .ok (.getfield 11, 3) := by decide +kernel
theorem dX5_frameOf_4 : decode cX5_frameOf 4 = .ok (.aload_n 0, 1) := by decide +kernel
theorem dX5_frameOf_5 : decode cX5_frameOf 5 = .ok (.getfield 19, 3) := by decide +kernel
theorem dX5_frameOf_8 : decode cX5_frameOf 8 = .ok (.iload_n 1, 1) := by decide +kernel
theorem dX5_frameOf_9 : decode cX5_frameOf 9 = .ok (.iaload, 1) := by decide +kernel
theorem dX5_frameOf_10 : decode cX5_frameOf 10 = .ok (.aaload, 1) := by decide +kernel
theorem dX5_frameOf_11 : decode cX5_frameOf 11 = .ok (.iload_n 1, 1) := by decide +kernel
theorem dX5_frameOf_12 : decode cX5_frameOf 12 = .ok (.iaload, 1) := by decide +kernel
theorem dX5_frameOf_13 : decode cX5_frameOf 13 = .ok (.ireturn, 1) := by decide +kernel
theorem dX5_wearOf_0 : decode cX5_wearOf 0 = .ok (.aload_n 0, 1) := by decide +kernel
theorem dX5_wearOf_1 : decode cX5_wearOf 1 = .ok (.getfield 27, 3) := by decide +kernel
theorem dX5_wearOf_4 : decode cX5_wearOf 4 = .ok (.aload_n 0, 1) := by decide +kernel
theorem dX5_wearOf_5 : decode cX5_wearOf 5 = .ok (.getfield 19, 3) := by decide +kernel
theorem dX5_wearOf_8 : decode cX5_wearOf 8 = .ok (.iload_n 1, 1) := by decide +kernel
theorem dX5_wearOf_9 : decode cX5_wearOf 9 = .ok (.iaload, 1) := by decide +kernel
theorem dX5_wearOf_10 : decode cX5_wearOf 10 = .ok (.aaload, 1) := by decide +kernel
theorem dX5_wearOf_11 : decode cX5_wearOf 11 = .ok (.getfield 95, 3) := by decide +kernel
theorem dX5_wearOf_14 : decode cX5_wearOf 14 = .ok (.aload_n 0, 1) := by decide +kernel
theorem dX5_wearOf_15 : decode cX5_wearOf 15 = .ok (.iload_n 1, 1) := by decide +kernel
theorem dX5_wearOf_16 : decode cX5_wearOf 16 = .ok (.invokevirtual 117, 3) := by decide +kernel
theorem dX5_wearOf_19 : decode cX5_wearOf 19 = .ok (.iaload, 1) := by decide +kernel
theorem dX5_wearOf_20 : decode cX5_wearOf 20 = .ok (.ireturn, 1) := by decide +kernel
theorem dX8_init_0 : decode cX8_init 0 = .ok (.aload_n 0, 1) := by decide +kernel
theorem dX8_init_1 : decode cX8_init 1 = .ok (.invokespecial 3, 3) := by decide +kernel
theorem dX8_init_4 : decode cX8_init 4 = .ok (.aload_n 0, 1) := by decide +kernel
theorem dX8_init_5 : decode cX8_init 5 = .ok (.bipush 6, 2) := by decide +kernel
theorem dX8_init_7 : decode cX8_init 7 = .ok (.anewarray 9, 3) := by decide +kernel
theorem dX8_init_10 : decode cX8_init 10 = .ok (.putfield 11, 3) := by decide +kernel
theorem dX8_init_13 : decode cX8_init 13 = .ok (.aload_n 0, 1) := by decide +kernel
theorem dX8_init_14 : decode cX8_init 14 = .ok (.new 15, 3) := by decide +kernel
theorem dX8_init_17 : decode cX8_init 17 = .ok (.dup, 1) := by decide +kernel
theorem dX8_init_18 : decode cX8_init 18 = .ok (.invokespecial 17, 3) := by decide +kernel
theorem dX8_init_21 : decode cX8_init 21 = .ok (.putfield 18, 3) := by decide +kernel
theorem dX8_init_24 : decode cX8_init 24 = .ok (.aload_n 0, 1) := by decide +kernel
theorem dX8_init_25 : decode cX8_init 25 = .ok (.iconst 4, 1) := by decide +kernel
theorem dX8_init_26 : decode cX8_init 26 = .ok (.newarray .int, 2) := by decide +kernel
theorem dX8_init_28 : decode cX8_init 28 = .ok (.dup, 1) := by decide +kernel
theorem dX8_init_29 : decode cX8_init 29 = .ok (.iconst 0, 1) := by decide +kernel
theorem dX8_init_30 : decode cX8_init 30 = .ok (.iconst 0, 1) := by decide +kernel
theorem dX8_init_31 : decode cX8_init 31 = .ok (.iastore, 1) := by decide +kernel
theorem dX8_init_32 : decode cX8_init 32 = .ok (.dup, 1) := by decide +kernel
theorem dX8_init_33 : decode cX8_init 33 = .ok (.iconst 1, 1) := by decide +kernel
theorem dX8_init_34 : decode cX8_init 34 = .ok (.bipush 20, 2) := by decide +kernel
theorem dX8_init_36 : decode cX8_init 36 = .ok (.iastore, 1) := by decide +kernel
theorem dX8_init_37 : decode cX8_init 37 = .ok (.dup, 1) := by decide +kernel
theorem dX8_init_38 : decode cX8_init 38 = .ok (.iconst 2, 1) := by decide +kernel
theorem dX8_init_39 : decode cX8_init 39 = .ok (.iconst 4, 1) := by decide +kernel
theorem dX8_init_40 : decode cX8_init 40 = .ok (.iastore, 1) := by decide +kernel
theorem dX8_init_41 : decode cX8_init 41 = .ok (.dup, 1) := by decide +kernel
theorem dX8_init_42 : decode cX8_init 42 = .ok (.iconst 3, 1) := by decide +kernel
theorem dX8_init_43 : decode cX8_init 43 = .ok (.bipush 30, 2) := by decide +kernel
theorem dX8_init_45 : decode cX8_init 45 = .ok (.iastore, 1) := by decide +kernel
theorem dX8_init_46 : decode cX8_init 46 = .ok (.putfield 22, 3) := by decide +kernel
theorem dX8_init_49 : decode cX8_init 49 = .ok (.aload_n 0, 1) := by decide +kernel
theorem dX8_init_50 : decode cX8_init 50 = .ok (.new 26, 3) := by decide +kernel
theorem dX8_init_53 : decode cX8_init 53 = .ok (.dup, 1) := by decide +kernel
theorem dX8_init_54 : decode cX8_init 54 = .ok (.invokespecial 28, 3) := by decide +kernel
theorem dX8_init_57 : decode cX8_init 57 = .ok (.putfield 29, 3) := by decide +kernel
theorem dX8_init_60 : decode cX8_init 60 = .ok (.aload_n 0, 1) := by decide +kernel
theorem dX8_init_61 : decode cX8_init 61 = .ok (.new 33, 3) := by decide +kernel
theorem dX8_init_64 : decode cX8_init 64 = .ok (.dup, 1) := by decide +kernel
theorem dX8_init_65 : decode cX8_init 65 = .ok (.invokespecial 35, 3) := by decide +kernel
theorem dX8_init_68 : decode cX8_init 68 = .ok (.putfield 36, 3) := by decide +kernel
theorem dX8_init_71 : decode cX8_init 71 = .ok (.aload_n 0, 1) := by decide +kernel
theorem dX8_init_72 : decode cX8_init 72 = .ok (.new 40, 3) := by decide +kernel
theorem dX8_init_75 : decode cX8_init 75 = .ok (.dup, 1) := by decide +kernel
theorem dX8_init_76 : decode cX8_init 76 = .ok (.invokespecial 42, 3) := by decide +kernel
theorem dX8_init_79 : decode cX8_init 79 = .ok (.putfield 43, 3) := by decide +kernel
theorem dX8_init_82 : decode cX8_init 82 = .ok (.aload_n 0, 1) := by decide +kernel
theorem dX8_init_83 : decode cX8_init 83 = .ok (.new 47, 3) := by decide +kernel
theorem dX8_init_86 : decode cX8_init 86 = .ok (.dup, 1) := by decide +kernel
theorem dX8_init_87 : decode cX8_init 87 = .ok (.invokespecial 49, 3) := by decide +kernel
theorem dX8_init_90 : decode cX8_init 90 = .ok (.putfield 50, 3) := by decide +kernel
theorem dX8_init_93 : decode cX8_init 93 = .ok (.iconst 0, 1) := by decide +kernel
theorem dX8_init_94 : decode cX8_init 94 = .ok (.istore_n 1, 1) := by decide +kernel
theorem dX8_init_95 : decode cX8_init 95 = .ok (.iload_n 1, 1) := by decide +kernel
theorem dX8_init_96 : decode cX8_init 96 = .ok (.bipush 6, 2) := by decide +kernel
theorem dX8_init_98 : decode cX8_init 98 = .ok (.if_icmp .ge 22, 3) := by decide +kernel
theorem dX8_init_101 : decode cX8_init 101 = .ok (.aload_n 0, 1) := by decide +kernel
theorem dX8_init_102 : decode cX8_init 102 = .ok (.getfield 11, 3) := by decide +kernel
theorem dX8_init_105 : decode cX8_init 105 = .ok (.iload_n 1, 1) := by decide +kernel
theorem dX8_init_106 : decode cX8_init 106 = .ok (.new 9, 3) := by decide +kernel
theorem dX8_init_109 : decode cX8_init 109 = .ok (.dup, 1) := by decide +kernel
theorem dX8_init_110 : decode cX8_init 110 = .ok (.invokespecial 54, 3) := by decide +kernel
theorem dX8_init_113 : decode cX8_init 113 = .ok (.aastore, 1) := by decide +kernel
theorem dX8_init_114 : decode cX8_init 114 = .ok (.iinc 1 1, 3) := by decide +kernel
theorem dX8_init_117 : decode cX8_init 117 = .ok (.goto (-22), 3) := by decide +kernel
theorem dX8_init_120 : decode cX8_init 120 = .ok (.aload_n 0, 1) := by decide +kernel
theorem dX8_init_121 : decode cX8_init 121 = .ok (.new 55, 3) := by decide +kernel
theorem dX8_init_124 : decode cX8_init 124 = .ok (.dup, 1) := by decide +kernel
theorem dX8_init_125 : decode cX8_init 125 = .ok (.aload_n 0, 1) := by decide +kernel
theorem dX8_init_126 : decode cX8_init 126 = .ok (.getfield 18, 3) := by decide +kernel
theorem dX8_init_129 : decode cX8_init 129 = .ok (.aload_n 0, 1) := by decide +kernel
theorem dX8_init_130 : decode cX8_init 130 = .ok (.getfield 11, 3) := by decide +kernel
theorem dX8_init_133 : decode cX8_init 133 = .ok (.aload_n 0, 1) := by decide +kernel
theorem dX8_init_134 : decode cX8_init 134 = .ok (.getfield 22, 3) := by decide +kernel
theorem dX8_init_137 : decode cX8_init 137 = .ok (.aload_n 0, 1) := by decide +kernel
theorem dX8_init_138 : decode cX8_init 138 = .ok (.getfield 29, 3) := by decide +kernel
theorem dX8_init_141 : decode cX8_init 141 = .ok (.invokespecial 57, 3) := by decide +kernel
theorem dX8_init_144 : decode cX8_init 144 = .ok (.putfield 60, 3) := by decide +kernel
theorem dX8_init_147 : decode cX8_init 147 = .ok (.return_, 1) := by decide +kernel
theorem dX8_copy_0 : decode cX8_copy 0 = .ok (.aload_n 0, 1) := by decide +kernel
theorem dX8_copy_1 : decode cX8_copy 1 = .ok (.getfield 64, 3) := by decide +kernel
theorem dX8_copy_4 : decode cX8_copy 4 = .ok (.bipush 6, 2) := by decide +kernel
theorem dX8_copy_6 : decode cX8_copy 6 = .ok (.if_icmp .lt 6, 3) := by decide +kernel
theorem dX8_copy_9 : decode cX8_copy 9 = .ok (.bipush (-3), 2) := by decide +kernel
theorem dX8_copy_11 : decode cX8_copy 11 = .ok (.ireturn, 1) := by decide +kernel
theorem dX8_copy_12 : decode cX8_copy 12 = .ok (.aload_n 0, 1) := by decide +kernel
theorem dX8_copy_13 : decode cX8_copy 13 = .ok (.dup, 1) := by decide +kernel
theorem dX8_copy_14 : decode cX8_copy 14 = .ok (.getfield 64, 3) := by decide +kernel
theorem dX8_copy_17 : decode cX8_copy 17 = .ok (.iconst 1, 1) := by decide +kernel
theorem dX8_copy_18 : decode cX8_copy 18 = .ok (.iadd, 1) := by decide +kernel
theorem dX8_copy_19 : decode cX8_copy 19 = .ok (.putfield 64, 3) := by decide +kernel
theorem dX8_copy_22 : decode cX8_copy 22 = .ok (.aload_n 0, 1) := by decide +kernel
theorem dX8_copy_23 : decode cX8_copy 23 = .ok (.getfield 64, 3) := by decide +kernel
theorem dX8_copy_26 : decode cX8_copy 26 = .ok (.iconst 1, 1) := by decide +kernel
theorem dX8_copy_27 : decode cX8_copy 27 = .ok (.isub, 1) := by decide +kernel
theorem dX8_copy_28 : decode cX8_copy 28 = .ok (.ireturn, 1) := by decide +kernel
theorem dX8_frame_0 : decode cX8_frame 0 = .ok (.aload_n 0, 1) := by decide +kernel
theorem dX8_frame_1 : decode cX8_frame 1 = .ok (.iload_n 1, 1) := by decide +kernel
theorem dX8_frame_2 : decode cX8_frame 2 = .ok (.invokevirtual 68, 3) := by decide +kernel
theorem dX8_frame_5 : decode cX8_frame 5 = .ok (.ifCond .eq 30, 3) := by decide +kernel
theorem dX8_frame_8 : decode cX8_frame 8 = .ok (.iload_n 2, 1) := by decide +kernel
theorem dX8_frame_9 : decode cX8_frame 9 = .ok (.bipush 63, 2) := by decide +kernel
theorem dX8_frame_11 : decode cX8_frame 11 = .ok (.invokestatic 72, 3) := by decide +kernel
theorem dX8_frame_14 : decode cX8_frame 14 = .ok (.ifCond .eq 21, 3) := by decide +kernel
theorem dX8_frame_17 : decode cX8_frame 17 = .ok (.iload_n 3, 1) := by decide +kernel
theorem dX8_frame_18 : decode cX8_frame 18 = .ok (.bipush 9, 2) := by decide +kernel
theorem dX8_frame_20 : decode cX8_frame 20 = .ok (.invokestatic 72, 3) := by decide +kernel
theorem dX8_frame_23 : decode cX8_frame 23 = .ok (.ifCond .eq 12, 3) := by decide +kernel
theorem dX8_frame_26 : decode cX8_frame 26 = .ok (.iload 4, 2) := by decide +kernel
theorem dX8_frame_28 : decode cX8_frame 28 = .ok (.iconst 1, 1) := by decide +kernel
theorem dX8_frame_29 : decode cX8_frame 29 = .ok (.invokestatic 72, 3) := by decide +kernel
theorem dX8_frame_32 : decode cX8_frame 32 = .ok (.ifCond .ne 5, 3) := by decide +kernel
theorem dX8_frame_35 : decode cX8_frame 35 = .ok (.iconst (-1), 1) := by decide +kernel
theorem dX8_frame_36 : decode cX8_frame 36 = .ok (.ireturn, 1) := by decide +kernel
theorem dX8_frame_37 : decode cX8_frame 37 = .ok (.aload_n 0, 1) := by decide +kernel
theorem dX8_frame_38 : decode cX8_frame 38 = .ok (.getfield 11, 3) := by decide +kernel
theorem dX8_frame_41 : decode cX8_frame 41 = .ok (.iload_n 1, 1) := by decide +kernel
theorem dX8_frame_42 : decode cX8_frame 42 = .ok (.aaload, 1) := by decide +kernel
theorem dX8_frame_43 : decode cX8_frame 43 = .ok (.astore 5, 2) := by decide +kernel
theorem dX8_frame_45 : decode cX8_frame 45 = .ok (.aload 5, 2) := by decide +kernel
theorem dX8_frame_47 : decode cX8_frame 47 = .ok (.iconst 1, 1) := by decide +kernel
theorem dX8_frame_48 : decode cX8_frame 48 = .ok (.invokevirtual 76, 3) := by decide +kernel
theorem dX8_frame_51 : decode cX8_frame 51 = .ok (.ifCond .ne 6, 3) := by decide +kernel
theorem dX8_frame_54 : decode cX8_frame 54 = .ok (.bipush (-3), 2) := by decide +kernel
theorem dX8_frame_56 : decode cX8_frame 56 = .ok (.ireturn, 1) := by decide +kernel
theorem dX8_frame_57 : decode cX8_frame 57 = .ok (.aload 5, 2) := by decide +kernel
theorem dX8_frame_59 : decode cX8_frame 59 = .ok (.iload_n 2, 1) := by decide +kernel
theorem dX8_frame_60 : decode cX8_frame 60 = .ok (.iload_n 3, 1) := by decide +kernel
theorem dX8_frame_61 : decode cX8_frame 61 = .ok (.iload 4, 2) := by decide +kernel
theorem dX8_frame_63 : decode cX8_frame 63 = .ok (.invokevirtual 79, 3) := by decide +kernel
theorem dX8_frame_66 : decode cX8_frame 66 = .ok (.aload 5, 2) := by decide +kernel
theorem dX8_frame_68 : decode cX8_frame 68 = .ok (.getfield 83, 3) := by decide +kernel
theorem dX8_frame_71 : decode cX8_frame 71 = .ok (.ireturn, 1) := by decide +kernel
theorem dX8_frames_0 : decode cX8_frames 0 = .ok (.aload_n 0, 1) := by decide +kernel
theorem dX8_frames_1 : decode cX8_frames 1 = .ok (.iload_n 1, 1) := by decide +kernel
theorem dX8_frames_2 : decode cX8_frames 2 = .ok (.invokevirtual 68, 3) := by decide +kernel
theorem dX8_frames_5 : decode cX8_frames 5 = .ok (.ifCond .eq 21, 3) := by decide +kernel
theorem dX8_frames_8 : decode cX8_frames 8 = .ok (.iload_n 2, 1) := by decide +kernel
theorem dX8_frames_9 : decode cX8_frames 9 = .ok (.iconst 1, 1) := by decide +kernel
theorem dX8_frames_10 : decode cX8_frames 10 = .ok (.if_icmp .lt 16, 3) := by decide +kernel
theorem dX8_frames_13 : decode cX8_frames 13 = .ok (.iload_n 2, 1) := by decide +kernel
theorem dX8_frames_14 : decode cX8_frames 14 = .ok (.iconst 4, 1) := by decide +kernel
theorem dX8_frames_15 : decode cX8_frames 15 = .ok (.if_icmp .gt 11, 3) := by decide +kernel
theorem dX8_frames_18 : decode cX8_frames 18 = .ok (.iload_n 2, 1) := by decide +kernel
theorem dX8_frames_19 : decode cX8_frames 19 = .ok (.lload_n 3, 1) := by decide +kernel
theorem dX8_frames_20 : decode cX8_frames 20 = .ok (.invokestatic 86, 3) := by decide +kernel
theorem dX8_frames_23 : decode cX8_frames 23 = .ok (.ifCond .ne 5, 3) := by decide +kernel
theorem dX8_frames_26 : decode cX8_frames 26 = .ok (.iconst (-1), 1) := by decide +kernel
theorem dX8_frames_27 : decode cX8_frames 27 = .ok (.ireturn, 1) := by decide +kernel
theorem dX8_frames_28 : decode cX8_frames 28 = .ok (.aload_n 0, 1) := by decide +kernel
theorem dX8_frames_29 : decode cX8_frames 29 = .ok (.getfield 11, 3) := by decide +kernel
theorem dX8_frames_32 : decode cX8_frames 32 = .ok (.iload_n 1, 1) := by decide +kernel
theorem dX8_frames_33 : decode cX8_frames 33 = .ok (.aaload, 1) := by decide +kernel
theorem dX8_frames_34 : decode cX8_frames 34 = .ok (.astore 5, 2) := by decide +kernel
theorem dX8_frames_36 : decode cX8_frames 36 = .ok (.aload 5, 2) := by decide +kernel
theorem dX8_frames_38 : decode cX8_frames 38 = .ok (.iload_n 2, 1) := by decide +kernel
theorem dX8_frames_39 : decode cX8_frames 39 = .ok (.invokevirtual 76, 3) := by decide +kernel
theorem dX8_frames_42 : decode cX8_frames 42 = .ok (.ifCond .ne 6, 3) := by decide +kernel
theorem dX8_frames_45 : decode cX8_frames 45 = .ok (.bipush (-3), 2) := by decide +kernel
theorem dX8_frames_47 : decode cX8_frames 47 = .ok (.ireturn, 1) := by decide +kernel
theorem dX8_frames_48 : decode cX8_frames 48 = .ok (.iconst 0, 1) := by decide +kernel
theorem dX8_frames_49 : decode cX8_frames 49 = .ok (.istore 6, 2) := by decide +kernel
theorem dX8_frames_51 : decode cX8_frames 51 = .ok (.iload 6, 2) := by decide +kernel
theorem dX8_frames_53 : decode cX8_frames 53 = .ok (.iload_n 2, 1) := by decide +kernel
theorem dX8_frames_54 : decode cX8_frames 54 = .ok (.if_icmp .ge 38, 3) := by decide +kernel
theorem dX8_frames_57 : decode cX8_frames 57 = .ok (.iload_n 2, 1) := by decide +kernel
theorem dX8_frames_58 : decode cX8_frames 58 = .ok (.lload_n 3, 1) := by decide +kernel
theorem dX8_frames_59 : decode cX8_frames 59 = .ok (.iload 6, 2) := by decide +kernel
theorem dX8_frames_61 : decode cX8_frames 61 = .ok (.invokestatic 92, 3) := by decide +kernel
theorem dX8_frames_64 : decode cX8_frames 64 = .ok (.istore 7, 2) := by decide +kernel
theorem dX8_frames_66 : decode cX8_frames 66 = .ok (.aload 5, 2) := by decide +kernel
theorem dX8_frames_68 : decode cX8_frames 68 = .ok (.iload 7, 2) := by decide +kernel
theorem dX8_frames_70 : decode cX8_frames 70 = .ok (.invokestatic 96, 3) := by decide +kernel
theorem dX8_frames_73 : decode cX8_frames 73 = .ok (.iload 7, 2) := by decide +kernel
theorem dX8_frames_75 : decode cX8_frames 75 = .ok (.invokestatic 100, 3) := by decide +kernel
theorem dX8_frames_78 : decode cX8_frames 78 = .ok (.iload 7, 2) := by decide +kernel
theorem dX8_frames_80 : decode cX8_frames 80 = .ok (.invokestatic 103, 3) := by decide +kernel
theorem dX8_frames_83 : decode cX8_frames 83 = .ok (.invokevirtual 79, 3) := by decide +kernel
theorem dX8_frames_86 : decode cX8_frames 86 = .ok (.iinc 6 1, 3) := by decide +kernel
theorem dX8_frames_89 : decode cX8_frames 89 = .ok (.goto (-38), 3) := by decide +kernel
theorem dX8_frames_92 : decode cX8_frames 92 = .ok (.aload 5, 2) := by decide +kernel
theorem dX8_frames_94 : decode cX8_frames 94 = .ok (.getfield 83, 3) := by decide +kernel
theorem dX8_frames_97 : decode cX8_frames 97 = .ok (.ireturn, 1) := by decide +kernel
theorem dX8_at_0 : decode cX8_at 0 = .ok (.aload_n 0, 1) := by decide +kernel
theorem dX8_at_1 : decode cX8_at 1 = .ok (.iload_n 1, 1) := by decide +kernel
theorem dX8_at_2 : decode cX8_at 2 = .ok (.iload_n 2, 1) := by decide +kernel
theorem dX8_at_3 : decode cX8_at 3 = .ok (.invokevirtual 106, 3) := by decide +kernel
theorem dX8_at_6 : decode cX8_at 6 = .ok (.ifCond .ne 5, 3) := by decide +kernel
theorem dX8_at_9 : decode cX8_at 9 = .ok (.iconst (-1), 1) := by decide +kernel
theorem dX8_at_10 : decode cX8_at 10 = .ok (.ireturn, 1) := by decide +kernel
theorem dX8_at_11 : decode cX8_at 11 = .ok (.aload_n 0, 1) := by decide +kernel
theorem dX8_at_12 : decode cX8_at 12 = .ok (.getfield 11, 3) := by decide +kernel
theorem dX8_at_15 : decode cX8_at 15 = .ok (.iload_n 1, 1) := by decide +kernel
theorem dX8_at_16 : decode cX8_at 16 = .ok (.aaload, 1) := by decide +kernel
theorem dX8_at_17 : decode cX8_at 17 = .ok (.astore 4, 2) := by decide +kernel
theorem dX8_at_19 : decode cX8_at 19 = .ok (.iload_n 3, 1) := by decide +kernel
theorem dX8_at_20 : decode cX8_at 20 = .ok (.tableswitch 52 0 2 #[28, 36, 44], 28) := by decide +kernel
theorem dX8_at_48 : decode cX8_at 48 = .ok (.aload 4, 2) := by decide +kernel
theorem dX8_at_50 : decode cX8_at 50 = .ok (.getfield 109, 3) := by decide +kernel
theorem dX8_at_53 : decode cX8_at 53 = .ok (.iload_n 2, 1) := by decide +kernel
theorem dX8_at_54 : decode cX8_at 54 = .ok (.iaload, 1) := by decide +kernel
theorem dX8_at_55 : decode cX8_at 55 = .ok (.ireturn, 1) := by decide +kernel
theorem dX8_at_56 : decode cX8_at 56 = .ok (.aload 4, 2) := by decide +kernel
theorem dX8_at_58 : decode cX8_at 58 = .ok (.getfield 112, 3) := by decide +kernel
theorem dX8_at_61 : decode cX8_at 61 = .ok (.iload_n 2, 1) := by decide +kernel
theorem dX8_at_62 : decode cX8_at 62 = .ok (.iaload, 1) := by decide +kernel
theorem dX8_at_63 : decode cX8_at 63 = .ok (.ireturn, 1) := by decide +kernel
theorem dX8_at_64 : decode cX8_at 64 = .ok (.aload 4, 2) := by decide +kernel
theorem dX8_at_66 : decode cX8_at 66 = .ok (.getfield 115, 3) := by decide +kernel
theorem dX8_at_69 : decode cX8_at 69 = .ok (.iload_n 2, 1) := by decide +kernel
theorem dX8_at_70 : decode cX8_at 70 = .ok (.iaload, 1) := by decide +kernel
theorem dX8_at_71 : decode cX8_at 71 = .ok (.ireturn, 1) := by decide +kernel
theorem dX8_at_72 : decode cX8_at 72 = .ok (.iconst (-1), 1) := by decide +kernel
theorem dX8_at_73 : decode cX8_at 73 = .ok (.ireturn, 1) := by decide +kernel
theorem dX8_wear_0 : decode cX8_wear 0 = .ok (.aload_n 0, 1) := by decide +kernel
theorem dX8_wear_1 : decode cX8_wear 1 = .ok (.iload_n 1, 1) := by decide +kernel
theorem dX8_wear_2 : decode cX8_wear 2 = .ok (.iload_n 2, 1) := by decide +kernel
theorem dX8_wear_3 : decode cX8_wear 3 = .ok (.invokevirtual 106, 3) := by decide +kernel
theorem dX8_wear_6 : decode cX8_wear 6 = .ok (.ifCond .eq 12, 3) := by decide +kernel
theorem dX8_wear_9 : decode cX8_wear 9 = .ok (.iload_n 3, 1) := by decide +kernel
theorem dX8_wear_10 : decode cX8_wear 10 = .ok (.bipush 9, 2) := by decide +kernel
theorem dX8_wear_12 : decode cX8_wear 12 = .ok (.invokestatic 72, 3) := by decide +kernel
theorem dX8_wear_15 : decode cX8_wear 15 = .ok (.ifCond .ne 5, 3) := by decide +kernel
theorem dX8_wear_18 : decode cX8_wear 18 = .ok (.iconst (-1), 1) := by decide +kernel
theorem dX8_wear_19 : decode cX8_wear 19 = .ok (.ireturn, 1) := by decide +kernel
theorem dX8_wear_20 : decode cX8_wear 20 = .ok (.aload_n 0, 1) := by decide +kernel
theorem dX8_wear_21 : decode cX8_wear 21 = .ok (.getfield 11, 3) := by decide +kernel
theorem dX8_wear_24 : decode cX8_wear 24 = .ok (.iload_n 1, 1) := by decide +kernel
theorem dX8_wear_25 : decode cX8_wear 25 = .ok (.aaload, 1) := by decide +kernel
theorem dX8_wear_26 : decode cX8_wear 26 = .ok (.getfield 112, 3) := by decide +kernel
theorem dX8_wear_29 : decode cX8_wear 29 = .ok (.iload_n 2, 1) := by decide +kernel
theorem dX8_wear_30 : decode cX8_wear 30 = .ok (.iaload, 1) := by decide +kernel
theorem dX8_wear_31 : decode cX8_wear 31 = .ok (.istore 4, 2) := by decide +kernel
theorem dX8_wear_33 : decode cX8_wear 33 = .ok (.aload_n 0, 1) := by decide +kernel
theorem dX8_wear_34 : decode cX8_wear 34 = .ok (.iload_n 1, 1) := by decide +kernel
theorem dX8_wear_35 : decode cX8_wear 35 = .ok (.iload_n 2, 1) := by decide +kernel
theorem dX8_wear_36 : decode cX8_wear 36 = .ok (.iload_n 3, 1) := by decide +kernel
theorem dX8_wear_37 : decode cX8_wear 37 = .ok (.invokevirtual 118, 3) := by decide +kernel
theorem dX8_wear_40 : decode cX8_wear 40 = .ok (.iload 4, 2) := by decide +kernel
theorem dX8_wear_42 : decode cX8_wear 42 = .ok (.ireturn, 1) := by decide +kernel
theorem dX8_place_0 : decode cX8_place 0 = .ok (.iload_n 1, 1) := by decide +kernel
theorem dX8_place_1 : decode cX8_place 1 = .ok (.bipush 63, 2) := by decide +kernel
theorem dX8_place_3 : decode cX8_place 3 = .ok (.invokestatic 72, 3) := by decide +kernel
theorem dX8_place_6 : decode cX8_place 6 = .ok (.ifCond .eq 11, 3) := by decide +kernel
theorem dX8_place_9 : decode cX8_place 9 = .ok (.iload_n 2, 1) := by decide +kernel
theorem dX8_place_10 : decode cX8_place 10 = .ok (.iconst 5, 1) := by decide +kernel
theorem dX8_place_11 : decode cX8_place 11 = .ok (.invokestatic 72, 3) := by decide +kernel
theorem dX8_place_14 : decode cX8_place 14 = .ok (.ifCond .ne 5, 3) := by decide +kernel
theorem dX8_place_17 : decode cX8_place 17 = .ok (.iconst (-1), 1) := by decide +kernel
theorem dX8_place_18 : decode cX8_place 18 = .ok (.ireturn, 1) := by decide +kernel
theorem dX8_place_19 : decode cX8_place 19 = .ok (.aload_n 0, 1) := by decide +kernel
theorem dX8_place_20 : decode cX8_place 20 = .ok (.getfield 18, 3) := by decide +kernel
theorem dX8_place_23 : decode cX8_place 23 = .ok (.getfield 121, 3) := by decide +kernel
theorem dX8_place_26 : decode cX8_place 26 = .ok (.bipush 40, 2) := by decide +kernel
theorem dX8_place_28 : decode cX8_place 28 = .ok (.if_icmp .lt 6, 3) := by decide +kernel
theorem dX8_place_31 : decode cX8_place 31 = .ok (.bipush (-3), 2) := by decide +kernel
theorem dX8_place_33 : decode cX8_place 33 = .ok (.ireturn, 1) := by decide +kernel
theorem dX8_place_34 : decode cX8_place 34 = .ok (.aload_n 0, 1) := by decide +kernel
theorem dX8_place_35 : decode cX8_place 35 = .ok (.getfield 18, 3) := by decide +kernel
theorem dX8_place_38 : decode cX8_place 38 = .ok (.iload_n 1, 1) := by decide +kernel
theorem dX8_place_39 : decode cX8_place 39 = .ok (.iload_n 2, 1) := by decide +kernel
theorem dX8_place_40 : decode cX8_place 40 = .ok (.invokevirtual 122, 3) := by decide +kernel
theorem dX8_place_43 : decode cX8_place 43 = .ok (.aload_n 0, 1) := by decide +kernel
theorem dX8_place_44 : decode cX8_place 44 = .ok (.getfield 18, 3) := by decide +kernel
theorem dX8_place_47 : decode cX8_place 47 = .ok (.getfield 121, 3) := by decide +kernel
theorem dX8_place_50 : decode cX8_place 50 = .ok (.ireturn, 1) := by decide +kernel
theorem dX8_noScript_0 : decode cX8_noScript 0 = .ok (.aload_n 0, 1) := by decide +kernel
theorem dX8_noScript_1 : decode cX8_noScript 1 = .ok (.getfield 18, 3) := by decide +kernel
theorem dX8_noScript_4 : decode cX8_noScript 4 = .ok (.getfield 121, 3) := by decide +kernel
theorem dX8_noScript_7 : decode cX8_noScript 7 = .ok (.istore_n 1, 1) := by decide +kernel
theorem dX8_noScript_8 : decode cX8_noScript 8 = .ok (.aload_n 0, 1) := by decide +kernel
theorem dX8_noScript_9 : decode cX8_noScript 9 = .ok (.getfield 18, 3) := by decide +kernel
theorem dX8_noScript_12 : decode cX8_noScript 12 = .ok (.iconst 0, 1) := by decide +kernel
theorem dX8_noScript_13 : decode cX8_noScript 13 = .ok (.putfield 121, 3) := by decide +kernel
theorem dX8_noScript_16 : decode cX8_noScript 16 = .ok (.iload_n 1, 1) := by decide +kernel
theorem dX8_noScript_17 : decode cX8_noScript 17 = .ok (.ireturn, 1) := by decide +kernel
theorem dX8_rule_0 : decode cX8_rule 0 = .ok (.iload_n 1, 1) := by decide +kernel
theorem dX8_rule_1 : decode cX8_rule 1 = .ok (.iconst 3, 1) := by decide +kernel
theorem dX8_rule_2 : decode cX8_rule 2 = .ok (.invokestatic 72, 3) := by decide +kernel
theorem dX8_rule_5 : decode cX8_rule 5 = .ok (.ifCond .eq 15, 3) := by decide +kernel
theorem dX8_rule_8 : decode cX8_rule 8 = .ok (.iload_n 2, 1) := by decide +kernel
theorem dX8_rule_9 : decode cX8_rule 9 = .ok (.getstatic 125, 3) := by decide +kernel
theorem dX8_rule_12 : decode cX8_rule 12 = .ok (.iload_n 1, 1) := by decide +kernel
theorem dX8_rule_13 : decode cX8_rule 13 = .ok (.iaload, 1) := by decide +kernel
theorem dX8_rule_14 : decode cX8_rule 14 = .ok (.invokestatic 72, 3) := by decide +kernel
theorem dX8_rule_17 : decode cX8_rule 17 = .ok (.ifCond .ne 5, 3) := by decide +kernel
theorem dX8_rule_20 : decode cX8_rule 20 = .ok (.iconst (-1), 1) := by decide +kernel
theorem dX8_rule_21 : decode cX8_rule 21 = .ok (.ireturn, 1) := by decide +kernel
theorem dX8_rule_22 : decode cX8_rule 22 = .ok (.aload_n 0, 1) := by decide +kernel
theorem dX8_rule_23 : decode cX8_rule 23 = .ok (.getfield 22, 3) := by decide +kernel
theorem dX8_rule_26 : decode cX8_rule 26 = .ok (.iload_n 1, 1) := by decide +kernel
theorem dX8_rule_27 : decode cX8_rule 27 = .ok (.iaload, 1) := by decide +kernel
theorem dX8_rule_28 : decode cX8_rule 28 = .ok (.istore_n 3, 1) := by decide +kernel
theorem dX8_rule_29 : decode cX8_rule 29 = .ok (.aload_n 0, 1) := by decide +kernel
theorem dX8_rule_30 : decode cX8_rule 30 = .ok (.getfield 22, 3) := by decide +kernel
theorem dX8_rule_33 : decode cX8_rule 33 = .ok (.iload_n 1, 1) := by decide +kernel
theorem dX8_rule_34 : decode cX8_rule 34 = .ok (.iload_n 2, 1) := by decide +kernel
theorem dX8_rule_35 : decode cX8_rule 35 = .ok (.iastore, 1) := by decide +kernel
theorem dX8_rule_36 : decode cX8_rule 36 = .ok (.iload_n 3, 1) := by decide +kernel
theorem dX8_rule_37 : decode cX8_rule 37 = .ok (.ireturn, 1) := by decide +kernel
theorem dX8_line_0 : decode cX8_line 0 = .ok (.aload_n 0, 1) := by decide +kernel
theorem dX8_line_1 : decode cX8_line 1 = .ok (.iload_n 1, 1) := by decide +kernel
theorem dX8_line_2 : decode cX8_line 2 = .ok (.invokevirtual 128, 3) := by decide +kernel
theorem dX8_line_5 : decode cX8_line 5 = .ok (.ifCond .eq 25, 3) := by decide +kernel
theorem dX8_line_8 : decode cX8_line 8 = .ok (.aload_n 0, 1) := by decide +kernel
theorem dX8_line_9 : decode cX8_line 9 = .ok (.iload_n 2, 1) := by decide +kernel
theorem dX8_line_10 : decode cX8_line 10 = .ok (.invokevirtual 128, 3) := by decide +kernel
theorem dX8_line_13 : decode cX8_line 13 = .ok (.ifCond .eq 17, 3) := by decide +kernel
theorem dX8_line_16 : decode cX8_line 16 = .ok (.iload_n 3, 1) := by decide +kernel
theorem dX8_line_17 : decode cX8_line 17 = .ok (.iconst (-1), 1) := by decide +kernel
theorem dX8_line_18 : decode cX8_line 18 = .ok (.if_icmp .lt 12, 3) := by decide +kernel
theorem dX8_line_21 : decode cX8_line 21 = .ok (.iload_n 3, 1) := by decide +kernel
theorem dX8_line_22 : decode cX8_line 22 = .ok (.aload_n 0, 1) := by decide +kernel
theorem dX8_line_23 : decode cX8_line 23 = .ok (.iload_n 1, 1) := by decide +kernel
theorem dX8_line_24 : decode cX8_line 24 = .ok (.invokevirtual 131, 3) := by decide +kernel
theorem dX8_line_27 : decode cX8_line 27 = .ok (.if_icmp .lt 5, 3) := by decide +kernel
theorem dX8_line_30 : decode cX8_line 30 = .ok (.iconst (-1), 1) := by decide +kernel
theorem dX8_line_31 : decode cX8_line 31 = .ok (.ireturn, 1) := by decide +kernel
theorem dX8_line_32 : decode cX8_line 32 = .ok (.aload_n 0, 1) := by decide +kernel
theorem dX8_line_33 : decode cX8_line 33 = .ok (.getfield 29, 3) := by decide +kernel
theorem dX8_line_36 : decode cX8_line 36 = .ok (.aload_n 0, 1) := by decide +kernel
theorem dX8_line_37 : decode cX8_line 37 = .ok (.iload_n 1, 1) := by decide +kernel
theorem dX8_line_38 : decode cX8_line 38 = .ok (.invokevirtual 134, 3) := by decide +kernel
theorem dX8_line_41 : decode cX8_line 41 = .ok (.aload_n 0, 1) := by decide +kernel
theorem dX8_line_42 : decode cX8_line 42 = .ok (.iload_n 1, 1) := by decide +kernel
theorem dX8_line_43 : decode cX8_line 43 = .ok (.invokevirtual 131, 3) := by decide +kernel
theorem dX8_line_46 : decode cX8_line 46 = .ok (.aload_n 0, 1) := by decide +kernel
theorem dX8_line_47 : decode cX8_line 47 = .ok (.iload_n 2, 1) := by decide +kernel
theorem dX8_line_48 : decode cX8_line 48 = .ok (.invokevirtual 134, 3) := by decide +kernel
theorem dX8_line_51 : decode cX8_line 51 = .ok (.aload_n 0, 1) := by decide +kernel
theorem dX8_line_52 : decode cX8_line 52 = .ok (.iload_n 2, 1) := by decide +kernel
theorem dX8_line_53 : decode cX8_line 53 = .ok (.invokevirtual 131, 3) := by decide +kernel
theorem dX8_line_56 : decode cX8_line 56 = .ok (.invokevirtual 138, 3) := by decide +kernel
theorem dX8_line_59 : decode cX8_line 59 = .ok (.iload_n 3, 1) := by decide +kernel
theorem dX8_line_60 : decode cX8_line 60 = .ok (.iconst (-1), 1) := by decide +kernel
theorem dX8_line_61 : decode cX8_line 61 = .ok (.if_icmp .ne 13, 3) := by decide +kernel
theorem dX8_line_64 : decode cX8_line 64 = .ok (.aload_n 0, 1) := by decide +kernel
theorem dX8_line_65 : decode cX8_line 65 = .ok (.getfield 29, 3) := by decide +kernel
theorem dX8_line_68 : decode cX8_line 68 = .ok (.invokevirtual 142, 3) := by decide +kernel
theorem dX8_line_71 : decode cX8_line 71 = .ok (.goto 12, 3) := by decide +kernel
theorem dX8_line_74 : decode cX8_line 74 = .ok (.aload_n 0, 1) := by decide +kernel
theorem dX8_line_75 : decode cX8_line 75 = .ok (.getfield 29, 3) := by decide +kernel
theorem dX8_line_78 : decode cX8_line 78 = .ok (.getfield 146, 3) := by decide +kernel
theorem dX8_line_81 : decode cX8_line 81 = .ok (.iload_n 3, 1) := by decide +kernel
theorem dX8_line_82 : decode cX8_line 82 = .ok (.iaload, 1) := by decide +kernel
theorem dX8_line_83 : decode cX8_line 83 = .ok (.ireturn, 1) := by decide +kernel
theorem dX8_stands_0 : decode cX8_stands 0 = .ok (.aload_n 0, 1) := by decide +kernel
theorem dX8_stands_1 : decode cX8_stands 1 = .ok (.iload_n 1, 1) := by decide +kernel
theorem dX8_stands_2 : decode cX8_stands 2 = .ok (.invokevirtual 68, 3) := by decide +kernel
theorem dX8_stands_5 : decode cX8_stands 5 = .ok (.ifCond .eq 14, 3) := by decide +kernel
theorem dX8_stands_8 : decode cX8_stands 8 = .ok (.aload_n 0, 1) := by decide +kernel
theorem dX8_stands_9 : decode cX8_stands 9 = .ok (.getfield 18, 3) := by decide +kernel
theorem dX8_stands_12 : decode cX8_stands 12 = .ok (.iload_n 2, 1) := by decide +kernel
theorem dX8_stands_13 : decode cX8_stands 13 = .ok (.invokevirtual 149, 3) := by decide +kernel
theorem dX8_stands_16 : decode cX8_stands 16 = .ok (.ifCond .ne 5, 3) := by decide +kernel
theorem dX8_stands_19 : decode cX8_stands 19 = .ok (.iconst (-1), 1) := by decide +kernel
theorem dX8_stands_20 : decode cX8_stands 20 = .ok (.ireturn, 1) := by decide +kernel
theorem dX8_stands_21 : decode cX8_stands 21 = .ok (.aload_n 0, 1) := by decide +kernel
theorem dX8_stands_22 : decode cX8_stands 22 = .ok (.getfield 60, 3) := by decide +kernel
theorem dX8_stands_25 : decode cX8_stands 25 = .ok (.iload_n 1, 1) := by decide +kernel
theorem dX8_stands_26 : decode cX8_stands 26 = .ok (.invokevirtual 152, 3) := by decide +kernel
theorem dX8_stands_29 : decode cX8_stands 29 = .ok (.aload_n 0, 1) := by decide +kernel
theorem dX8_stands_30 : decode cX8_stands 30 = .ok (.getfield 60, 3) := by decide +kernel
theorem dX8_stands_33 : decode cX8_stands 33 = .ok (.getfield 156, 3) := by decide +kernel
theorem dX8_stands_36 : decode cX8_stands 36 = .ok (.iload_n 1, 1) := by decide +kernel
theorem dX8_stands_37 : decode cX8_stands 37 = .ok (.aaload, 1) := by decide +kernel
theorem dX8_stands_38 : decode cX8_stands 38 = .ok (.iload_n 2, 1) := by decide +kernel
theorem dX8_stands_39 : decode cX8_stands 39 = .ok (.iaload, 1) := by decide +kernel
theorem dX8_stands_40 : decode cX8_stands 40 = .ok (.ireturn, 1) := by decide +kernel
theorem dX8_whole_0 : decode cX8_whole 0 = .ok (.iload_n 1, 1) := by decide +kernel
theorem dX8_whole_1 : decode cX8_whole 1 = .ok (.iconst (-1), 1) := by decide +kernel
theorem dX8_whole_2 : decode cX8_whole 2 = .ok (.if_icmp .eq 16, 3) := by decide +kernel
theorem dX8_whole_5 : decode cX8_whole 5 = .ok (.aload_n 0, 1) := by decide +kernel
theorem dX8_whole_6 : decode cX8_whole 6 = .ok (.getfield 18, 3) := by decide +kernel
theorem dX8_whole_9 : decode cX8_whole 9 = .ok (.iload_n 1, 1) := by decide +kernel
theorem dX8_whole_10 : decode cX8_whole 10 = .ok (.invokevirtual 149, 3) := by decide +kernel
theorem dX8_whole_13 : decode cX8_whole 13 = .ok (.ifCond .ne 5, 3) := by decide +kernel
theorem dX8_whole_16 : decode cX8_whole 16 = .ok (.iconst (-1), 1) := by decide +kernel
theorem dX8_whole_17 : decode cX8_whole 17 = .ok (.ireturn, 1) := by decide +kernel
theorem dX8_whole_18 : decode cX8_whole 18 = .ok (.aload_n 0, 1) := by decide +kernel
theorem dX8_whole_19 : decode cX8_whole 19 = .ok (.getfield 60, 3) := by decide +kernel
theorem dX8_whole_22 : decode cX8_whole 22 = .ok (.invokevirtual 160, 3) := by decide +kernel
theorem dX8_whole_25 : decode cX8_whole 25 = .ok (.iload_n 1, 1) := by decide +kernel
theorem dX8_whole_26 : decode cX8_whole 26 = .ok (.iconst (-1), 1) := by decide +kernel
theorem dX8_whole_27 : decode cX8_whole 27 = .ok (.if_icmp .ne 11, 3) := by decide +kernel
theorem dX8_whole_30 : decode cX8_whole 30 = .ok (.aload_n 0, 1) := by decide +kernel
theorem dX8_whole_31 : decode cX8_whole 31 = .ok (.getfield 60, 3) := by decide +kernel
theorem dX8_whole_34 : decode cX8_whole 34 = .ok (.getfield 163, 3) := by decide +kernel
theorem dX8_whole_37 : decode cX8_whole 37 = .ok (.ireturn, 1) := by decide +kernel
theorem dX8_whole_38 : decode cX8_whole 38 = .ok (.aload_n 0, 1) := by decide +kernel
theorem dX8_whole_39 : decode cX8_whole 39 = .ok (.getfield 60, 3) := by decide +kernel
theorem dX8_whole_42 : decode cX8_whole 42 = .ok (.getfield 166, 3) := by decide +kernel
theorem dX8_whole_45 : decode cX8_whole 45 = .ok (.iload_n 1, 1) := by decide +kernel
theorem dX8_whole_46 : decode cX8_whole 46 = .ok (.iaload, 1) := by decide +kernel
theorem dX8_whole_47 : decode cX8_whole 47 = .ok (.bipush 6, 2) := by decide +kernel
theorem dX8_whole_49 : decode cX8_whole 49 = .ok (.if_icmp .ne 8, 3) := by decide +kernel
theorem dX8_whole_52 : decode cX8_whole 52 = .ok (.bipush (-4), 2) := by decide +kernel
theorem dX8_whole_54 : decode cX8_whole 54 = .ok (.goto 12, 3) := by decide +kernel
theorem dX8_whole_57 : decode cX8_whole 57 = .ok (.aload_n 0, 1) := by decide +kernel
theorem dX8_whole_58 : decode cX8_whole 58 = .ok (.getfield 60, 3) := by decide +kernel
theorem dX8_whole_61 : decode cX8_whole 61 = .ok (.getfield 166, 3) := by decide +kernel
theorem dX8_whole_64 : decode cX8_whole 64 = .ok (.iload_n 1, 1) := by decide +kernel
theorem dX8_whole_65 : decode cX8_whole 65 = .ok (.iaload, 1) := by decide +kernel
theorem dX8_whole_66 : decode cX8_whole 66 = .ok (.ireturn, 1) := by decide +kernel
theorem dX8_about_0 : decode cX8_about 0 = .ok (.iload_n 1, 1) := by decide +kernel
theorem dX8_about_1 : decode cX8_about 1 = .ok (.iconst 2, 1) := by decide +kernel
theorem dX8_about_2 : decode cX8_about 2 = .ok (.invokestatic 72, 3) := by decide +kernel
theorem dX8_about_5 : decode cX8_about 5 = .ok (.ifCond .ne 5, 3) := by decide +kernel
theorem dX8_about_8 : decode cX8_about 8 = .ok (.iconst (-1), 1) := by decide +kernel
theorem dX8_about_9 : decode cX8_about 9 = .ok (.ireturn, 1) := by decide +kernel
theorem dX8_about_10 : decode cX8_about 10 = .ok (.aload_n 0, 1) := by decide +kernel
theorem dX8_about_11 : decode cX8_about 11 = .ok (.getfield 60, 3) := by decide +kernel
theorem dX8_about_14 : decode cX8_about 14 = .ok (.invokevirtual 160, 3) := by decide +kernel
theorem dX8_about_17 : decode cX8_about 17 = .ok (.iconst 0, 1) := by decide +kernel
theorem dX8_about_18 : decode cX8_about 18 = .ok (.istore_n 2, 1) := by decide +kernel
theorem dX8_about_19 : decode cX8_about 19 = .ok (.iconst 0, 1) := by decide +kernel
theorem dX8_about_20 : decode cX8_about 20 = .ok (.istore_n 3, 1) := by decide +kernel
theorem dX8_about_21 : decode cX8_about 21 = .ok (.iload_n 3, 1) := by decide +kernel
theorem dX8_about_22 : decode cX8_about 22 = .ok (.aload_n 0, 1) := by decide +kernel
theorem dX8_about_23 : decode cX8_about 23 = .ok (.getfield 18, 3) := by decide +kernel
theorem dX8_about_26 : decode cX8_about 26 = .ok (.getfield 121, 3) := by decide +kernel
theorem dX8_about_29 : decode cX8_about 29 = .ok (.if_icmp .ge 21, 3) := by decide +kernel
theorem dX8_about_32 : decode cX8_about 32 = .ok (.aload_n 0, 1) := by decide +kernel
theorem dX8_about_33 : decode cX8_about 33 = .ok (.iload_n 1, 1) := by decide +kernel
theorem dX8_about_34 : decode cX8_about 34 = .ok (.iload_n 3, 1) := by decide +kernel
theorem dX8_about_35 : decode cX8_about 35 = .ok (.invokevirtual 169, 3) := by decide +kernel
theorem dX8_about_38 : decode cX8_about 38 = .ok (.ifCond .eq 6, 3) := by decide +kernel
theorem dX8_about_41 : decode cX8_about 41 = .ok (.iinc 2 1, 3) := by decide +kernel
theorem dX8_about_44 : decode cX8_about 44 = .ok (.iinc 3 1, 3) := by decide +kernel
theorem dX8_about_47 : decode cX8_about 47 = .ok (.goto (-26), 3) := by decide +kernel
theorem dX8_about_50 : decode cX8_about 50 = .ok (.iload_n 2, 1) := by decide +kernel
theorem dX8_about_51 : decode cX8_about 51 = .ok (.ireturn, 1) := by decide +kernel
theorem dX8_mend_0 : decode cX8_mend 0 = .ok (.aload_n 0, 1) := by decide +kernel
theorem dX8_mend_1 : decode cX8_mend 1 = .ok (.getfield 18, 3) := by decide +kernel
theorem dX8_mend_4 : decode cX8_mend 4 = .ok (.iload_n 1, 1) := by decide +kernel
theorem dX8_mend_5 : decode cX8_mend 5 = .ok (.invokevirtual 149, 3) := by decide +kernel
theorem dX8_mend_8 : decode cX8_mend 8 = .ok (.ifCond .ne 5, 3) := by decide +kernel
theorem dX8_mend_11 : decode cX8_mend 11 = .ok (.iconst (-1), 1) := by decide +kernel
theorem dX8_mend_12 : decode cX8_mend 12 = .ok (.ireturn, 1) := by decide +kernel
theorem dX8_mend_13 : decode cX8_mend 13 = .ok (.aload_n 0, 1) := by decide +kernel
theorem dX8_mend_14 : decode cX8_mend 14 = .ok (.getfield 60, 3) := by decide +kernel
theorem dX8_mend_17 : decode cX8_mend 17 = .ok (.invokevirtual 160, 3) := by decide +kernel
theorem dX8_mend_20 : decode cX8_mend 20 = .ok (.aload_n 0, 1) := by decide +kernel
theorem dX8_mend_21 : decode cX8_mend 21 = .ok (.getfield 60, 3) := by decide +kernel
theorem dX8_mend_24 : decode cX8_mend 24 = .ok (.iload_n 1, 1) := by decide +kernel
theorem dX8_mend_25 : decode cX8_mend 25 = .ok (.invokevirtual 172, 3) := by decide +kernel
theorem dX8_mend_28 : decode cX8_mend 28 = .ok (.ifCond .ne 6, 3) := by decide +kernel
theorem dX8_mend_31 : decode cX8_mend 31 = .ok (.bipush (-2), 2) := by decide +kernel
theorem dX8_mend_33 : decode cX8_mend 33 = .ok (.ireturn, 1) := by decide +kernel
theorem dX8_mend_34 : decode cX8_mend 34 = .ok (.aload_n 0, 1) := by decide +kernel
theorem dX8_mend_35 : decode cX8_mend 35 = .ok (.getfield 60, 3) := by decide +kernel
theorem dX8_mend_38 : decode cX8_mend 38 = .ok (.iload_n 1, 1) := by decide +kernel
theorem dX8_mend_39 : decode cX8_mend 39 = .ok (.iconst 1, 1) := by decide +kernel
theorem dX8_mend_40 : decode cX8_mend 40 = .ok (.isub, 1) := by decide +kernel
theorem dX8_mend_41 : decode cX8_mend 41 = .ok (.invokevirtual 175, 3) := by decide +kernel
theorem dX8_mend_44 : decode cX8_mend 44 = .ok (.aload_n 0, 1) := by decide +kernel
theorem dX8_mend_45 : decode cX8_mend 45 = .ok (.getfield 60, 3) := by decide +kernel
theorem dX8_mend_48 : decode cX8_mend 48 = .ok (.iload_n 1, 1) := by decide +kernel
theorem dX8_mend_49 : decode cX8_mend 49 = .ok (.iconst 1, 1) := by decide +kernel
theorem dX8_mend_50 : decode cX8_mend 50 = .ok (.iadd, 1) := by decide +kernel
theorem dX8_mend_51 : decode cX8_mend 51 = .ok (.invokevirtual 175, 3) := by decide +kernel
theorem dX8_mend_54 : decode cX8_mend 54 = .ok (.invokestatic 178, 3) := by decide +kernel
theorem dX8_mend_57 : decode cX8_mend 57 = .ok (.istore_n 2, 1) := by decide +kernel
theorem dX8_mend_58 : decode cX8_mend 58 = .ok (.aload_n 0, 1) := by decide +kernel
theorem dX8_mend_59 : decode cX8_mend 59 = .ok (.aload_n 0, 1) := by decide +kernel
theorem dX8_mend_60 : decode cX8_mend 60 = .ok (.getfield 60, 3) := by decide +kernel
theorem dX8_mend_63 : decode cX8_mend 63 = .ok (.getfield 166, 3) := by decide +kernel
theorem dX8_mend_66 : decode cX8_mend 66 = .ok (.iload_n 1, 1) := by decide +kernel
theorem dX8_mend_67 : decode cX8_mend 67 = .ok (.iaload, 1) := by decide +kernel
theorem dX8_mend_68 : decode cX8_mend 68 = .ok (.aload_n 0, 1) := by decide +kernel
theorem dX8_mend_69 : decode cX8_mend 69 = .ok (.getfield 60, 3) := by decide +kernel
theorem dX8_mend_72 : decode cX8_mend 72 = .ok (.iload_n 1, 1) := by decide +kernel
theorem dX8_mend_73 : decode cX8_mend 73 = .ok (.invokevirtual 184, 3) := by decide +kernel
theorem dX8_mend_76 : decode cX8_mend 76 = .ok (.iload_n 2, 1) := by decide +kernel
theorem dX8_mend_77 : decode cX8_mend 77 = .ok (.invokevirtual 118, 3) := by decide +kernel
theorem dX8_mend_80 : decode cX8_mend 80 = .ok (.iload_n 2, 1) := by decide +kernel
theorem dX8_mend_81 : decode cX8_mend 81 = .ok (.ireturn, 1) := by decide +kernel
theorem dX8_note_0 : decode cX8_note 0 = .ok (.aload_n 0, 1) := by decide +kernel
theorem dX8_note_1 : decode cX8_note 1 = .ok (.iload_n 1, 1) := by decide +kernel
theorem dX8_note_2 : decode cX8_note 2 = .ok (.iload_n 2, 1) := by decide +kernel
theorem dX8_note_3 : decode cX8_note 3 = .ok (.invokevirtual 106, 3) := by decide +kernel
theorem dX8_note_6 : decode cX8_note 6 = .ok (.ifCond .eq 30, 3) := by decide +kernel
theorem dX8_note_9 : decode cX8_note 9 = .ok (.aload_n 0, 1) := by decide +kernel
theorem dX8_note_10 : decode cX8_note 10 = .ok (.iload_n 1, 1) := by decide +kernel
theorem dX8_note_11 : decode cX8_note 11 = .ok (.iload_n 3, 1) := by decide +kernel
theorem dX8_note_12 : decode cX8_note 12 = .ok (.invokevirtual 106, 3) := by decide +kernel
theorem dX8_note_15 : decode cX8_note 15 = .ok (.ifCond .eq 21, 3) := by decide +kernel
theorem dX8_note_18 : decode cX8_note 18 = .ok (.iload_n 2, 1) := by decide +kernel
theorem dX8_note_19 : decode cX8_note 19 = .ok (.iload_n 3, 1) := by decide +kernel
theorem dX8_note_20 : decode cX8_note 20 = .ok (.if_icmp .gt 16, 3) := by decide +kernel
theorem dX8_note_23 : decode cX8_note 23 = .ok (.iload 4, 2) := by decide +kernel
theorem dX8_note_25 : decode cX8_note 25 = .ok (.iconst 1, 1) := by decide +kernel
theorem dX8_note_26 : decode cX8_note 26 = .ok (.if_icmp .lt 10, 3) := by decide +kernel
theorem dX8_note_29 : decode cX8_note 29 = .ok (.iload 4, 2) := by decide +kernel
theorem dX8_note_31 : decode cX8_note 31 = .ok (.bipush 9, 2) := by decide +kernel
theorem dX8_note_33 : decode cX8_note 33 = .ok (.if_icmp .le 5, 3) := by decide +kernel
theorem dX8_note_36 : decode cX8_note 36 = .ok (.iconst (-1), 1) := by decide +kernel
theorem dX8_note_37 : decode cX8_note 37 = .ok (.ireturn, 1) := by decide +kernel
theorem dX8_note_38 : decode cX8_note 38 = .ok (.aload_n 0, 1) := by decide +kernel
theorem dX8_note_39 : decode cX8_note 39 = .ok (.getfield 36, 3) := by decide +kernel
theorem dX8_note_42 : decode cX8_note 42 = .ok (.getfield 187, 3) := by decide +kernel
theorem dX8_note_45 : decode cX8_note 45 = .ok (.bipush 12, 2) := by decide +kernel
theorem dX8_note_47 : decode cX8_note 47 = .ok (.if_icmp .lt 6, 3) := by decide +kernel
theorem dX8_note_50 : decode cX8_note 50 = .ok (.bipush (-3), 2) := by decide +kernel
theorem dX8_note_52 : decode cX8_note 52 = .ok (.ireturn, 1) := by decide +kernel
theorem dX8_note_53 : decode cX8_note 53 = .ok (.aload_n 0, 1) := by decide +kernel
theorem dX8_note_54 : decode cX8_note 54 = .ok (.getfield 36, 3) := by decide +kernel
theorem dX8_note_57 : decode cX8_note 57 = .ok (.iload_n 1, 1) := by decide +kernel
theorem dX8_note_58 : decode cX8_note 58 = .ok (.iload_n 2, 1) := by decide +kernel
theorem dX8_note_59 : decode cX8_note 59 = .ok (.iload_n 3, 1) := by decide +kernel
theorem dX8_note_60 : decode cX8_note 60 = .ok (.iload 4, 2) := by decide +kernel
theorem dX8_note_62 : decode cX8_note 62 = .ok (.invokevirtual 188, 3) := by decide +kernel
theorem dX8_note_65 : decode cX8_note 65 = .ok (.aload_n 0, 1) := by decide +kernel
theorem dX8_note_66 : decode cX8_note 66 = .ok (.getfield 36, 3) := by decide +kernel
theorem dX8_note_69 : decode cX8_note 69 = .ok (.getfield 187, 3) := by decide +kernel
theorem dX8_note_72 : decode cX8_note 72 = .ok (.ireturn, 1) := by decide +kernel
theorem dX8_tint_0 : decode cX8_tint 0 = .ok (.aload_n 0, 1) := by decide +kernel
theorem dX8_tint_1 : decode cX8_tint 1 = .ok (.getfield 18, 3) := by decide +kernel
theorem dX8_tint_4 : decode cX8_tint 4 = .ok (.iload_n 1, 1) := by decide +kernel
theorem dX8_tint_5 : decode cX8_tint 5 = .ok (.invokevirtual 149, 3) := by decide +kernel
theorem dX8_tint_8 : decode cX8_tint 8 = .ok (.ifCond .ne 5, 3) := by decide +kernel
theorem dX8_tint_11 : decode cX8_tint 11 = .ok (.iconst (-1), 1) := by decide +kernel
theorem dX8_tint_12 : decode cX8_tint 12 = .ok (.ireturn, 1) := by decide +kernel
theorem dX8_tint_13 : decode cX8_tint 13 = .ok (.aload_n 0, 1) := by decide +kernel
theorem dX8_tint_14 : decode cX8_tint 14 = .ok (.getfield 60, 3) := by decide +kernel
theorem dX8_tint_17 : decode cX8_tint 17 = .ok (.invokevirtual 160, 3) := by decide +kernel
theorem dX8_tint_20 : decode cX8_tint 20 = .ok (.aload_n 0, 1) := by decide +kernel
theorem dX8_tint_21 : decode cX8_tint 21 = .ok (.getfield 60, 3) := by decide +kernel
theorem dX8_tint_24 : decode cX8_tint 24 = .ok (.getfield 166, 3) := by decide +kernel
theorem dX8_tint_27 : decode cX8_tint 27 = .ok (.iload_n 1, 1) := by decide +kernel
theorem dX8_tint_28 : decode cX8_tint 28 = .ok (.iaload, 1) := by decide +kernel
theorem dX8_tint_29 : decode cX8_tint 29 = .ok (.istore_n 2, 1) := by decide +kernel
theorem dX8_tint_30 : decode cX8_tint 30 = .ok (.iload_n 2, 1) := by decide +kernel
theorem dX8_tint_31 : decode cX8_tint 31 = .ok (.bipush 6, 2) := by decide +kernel
theorem dX8_tint_33 : decode cX8_tint 33 = .ok (.if_icmp .ne 7, 3) := by decide +kernel
theorem dX8_tint_36 : decode cX8_tint 36 = .ok (.iconst 0, 1) := by decide +kernel
theorem dX8_tint_37 : decode cX8_tint 37 = .ok (.goto 19, 3) := by decide +kernel
theorem dX8_tint_40 : decode cX8_tint 40 = .ok (.aload_n 0, 1) := by decide +kernel
theorem dX8_tint_41 : decode cX8_tint 41 = .ok (.getfield 36, 3) := by decide +kernel
theorem dX8_tint_44 : decode cX8_tint 44 = .ok (.iload_n 2, 1) := by decide +kernel
theorem dX8_tint_45 : decode cX8_tint 45 = .ok (.aload_n 0, 1) := by decide +kernel
theorem dX8_tint_46 : decode cX8_tint 46 = .ok (.getfield 60, 3) := by decide +kernel
theorem dX8_tint_49 : decode cX8_tint 49 = .ok (.iload_n 1, 1) := by decide +kernel
theorem dX8_tint_50 : decode cX8_tint 50 = .ok (.invokevirtual 184, 3) := by decide +kernel
theorem dX8_tint_53 : decode cX8_tint 53 = .ok (.invokevirtual 191, 3) := by decide +kernel
theorem dX8_tint_56 : decode cX8_tint 56 = .ok (.istore_n 3, 1) := by decide +kernel
theorem dX8_tint_57 : decode cX8_tint 57 = .ok (.iload_n 3, 1) := by decide +kernel
theorem dX8_tint_58 : decode cX8_tint 58 = .ok (.ifCond .eq 7, 3) := by decide +kernel
theorem dX8_tint_61 : decode cX8_tint 61 = .ok (.iload_n 3, 1) := by decide +kernel
theorem dX8_tint_62 : decode cX8_tint 62 = .ok (.goto 8, 3) := by decide +kernel
theorem dX8_tint_65 : decode cX8_tint 65 = .ok (.aload_n 0, 1) := by decide +kernel
theorem dX8_tint_66 : decode cX8_tint 66 = .ok (.iload_n 1, 1) := by decide +kernel
theorem dX8_tint_67 : decode cX8_tint 67 = .ok (.invokevirtual 194, 3) := by decide +kernel
theorem dX8_tint_70 : decode cX8_tint 70 = .ok (.ireturn, 1) := by decide +kernel
theorem dX8_cue_0 : decode cX8_cue 0 = .ok (.iload_n 1, 1) := by decide +kernel
theorem dX8_cue_1 : decode cX8_cue 1 = .ok (.iconst 5, 1) := by decide +kernel
theorem dX8_cue_2 : decode cX8_cue 2 = .ok (.invokestatic 72, 3) := by decide +kernel
theorem dX8_cue_5 : decode cX8_cue 5 = .ok (.ifCond .eq 27, 3) := by decide +kernel
theorem dX8_cue_8 : decode cX8_cue 8 = .ok (.iload_n 2, 1) := by decide +kernel
theorem dX8_cue_9 : decode cX8_cue 9 = .ok (.iconst 5, 1) := by decide +kernel
theorem dX8_cue_10 : decode cX8_cue 10 = .ok (.invokestatic 72, 3) := by decide +kernel
theorem dX8_cue_13 : decode cX8_cue 13 = .ok (.ifCond .eq 19, 3) := by decide +kernel
theorem dX8_cue_16 : decode cX8_cue 16 = .ok (.iload_n 1, 1) := by decide +kernel
theorem dX8_cue_17 : decode cX8_cue 17 = .ok (.iload_n 2, 1) := by decide +kernel
theorem dX8_cue_18 : decode cX8_cue 18 = .ok (.if_icmp .eq 14, 3) := by decide +kernel
theorem dX8_cue_21 : decode cX8_cue 21 = .ok (.iload_n 3, 1) := by decide +kernel
theorem dX8_cue_22 : decode cX8_cue 22 = .ok (.iconst 1, 1) := by decide +kernel
theorem dX8_cue_23 : decode cX8_cue 23 = .ok (.if_icmp .lt 9, 3) := by decide +kernel
theorem dX8_cue_26 : decode cX8_cue 26 = .ok (.iload_n 3, 1) := by decide +kernel
theorem dX8_cue_27 : decode cX8_cue 27 = .ok (.bipush 100, 2) := by decide +kernel
theorem dX8_cue_29 : decode cX8_cue 29 = .ok (.if_icmp .le 5, 3) := by decide +kernel
theorem dX8_cue_32 : decode cX8_cue 32 = .ok (.iconst (-1), 1) := by decide +kernel
theorem dX8_cue_33 : decode cX8_cue 33 = .ok (.ireturn, 1) := by decide +kernel
theorem dX8_cue_34 : decode cX8_cue 34 = .ok (.aload_n 0, 1) := by decide +kernel
theorem dX8_cue_35 : decode cX8_cue 35 = .ok (.getfield 43, 3) := by decide +kernel
theorem dX8_cue_38 : decode cX8_cue 38 = .ok (.getfield 197, 3) := by decide +kernel
theorem dX8_cue_41 : decode cX8_cue 41 = .ok (.bipush 20, 2) := by decide +kernel
theorem dX8_cue_43 : decode cX8_cue 43 = .ok (.if_icmp .lt 6, 3) := by decide +kernel
theorem dX8_cue_46 : decode cX8_cue 46 = .ok (.bipush (-3), 2) := by decide +kernel
theorem dX8_cue_48 : decode cX8_cue 48 = .ok (.ireturn, 1) := by decide +kernel
theorem dX8_cue_49 : decode cX8_cue 49 = .ok (.aload_n 0, 1) := by decide +kernel
theorem dX8_cue_50 : decode cX8_cue 50 = .ok (.getfield 43, 3) := by decide +kernel
theorem dX8_cue_53 : decode cX8_cue 53 = .ok (.iload_n 1, 1) := by decide +kernel
theorem dX8_cue_54 : decode cX8_cue 54 = .ok (.iload_n 2, 1) := by decide +kernel
theorem dX8_cue_55 : decode cX8_cue 55 = .ok (.iload_n 3, 1) := by decide +kernel
theorem dX8_cue_56 : decode cX8_cue 56 = .ok (.invokevirtual 198, 3) := by decide +kernel
theorem dX8_cue_59 : decode cX8_cue 59 = .ok (.aload_n 0, 1) := by decide +kernel
theorem dX8_cue_60 : decode cX8_cue 60 = .ok (.getfield 43, 3) := by decide +kernel
theorem dX8_cue_63 : decode cX8_cue 63 = .ok (.getfield 197, 3) := by decide +kernel
theorem dX8_cue_66 : decode cX8_cue 66 = .ok (.ireturn, 1) := by decide +kernel
theorem dX8_noCues_0 : decode cX8_noCues 0 = .ok (.aload_n 0, 1) := by decide +kernel
theorem dX8_noCues_1 : decode cX8_noCues 1 = .ok (.getfield 43, 3) := by decide +kernel
theorem dX8_noCues_4 : decode cX8_noCues 4 = .ok (.getfield 197, 3) := by decide +kernel
theorem dX8_noCues_7 : decode cX8_noCues 7 = .ok (.istore_n 1, 1) := by decide +kernel
theorem dX8_noCues_8 : decode cX8_noCues 8 = .ok (.aload_n 0, 1) := by decide +kernel
theorem dX8_noCues_9 : decode cX8_noCues 9 = .ok (.getfield 43, 3) := by decide +kernel
theorem dX8_noCues_12 : decode cX8_noCues 12 = .ok (.invokevirtual 199, 3) := by decide +kernel
theorem dX8_noCues_15 : decode cX8_noCues 15 = .ok (.iload_n 1, 1) := by decide +kernel
theorem dX8_noCues_16 : decode cX8_noCues 16 = .ok (.ireturn, 1) := by decide +kernel
theorem dX8_order_0 : decode cX8_order 0 = .ok (.iload_n 1, 1) := by decide +kernel
theorem dX8_order_1 : decode cX8_order 1 = .ok (.iconst 2, 1) := by decide +kernel
theorem dX8_order_2 : decode cX8_order 2 = .ok (.if_icmp .lt 15, 3) := by decide +kernel
theorem dX8_order_5 : decode cX8_order 5 = .ok (.iload_n 1, 1) := by decide +kernel
theorem dX8_order_6 : decode cX8_order 6 = .ok (.bipush 6, 2) := by decide +kernel
theorem dX8_order_8 : decode cX8_order 8 = .ok (.if_icmp .gt 9, 3) := by decide +kernel
theorem dX8_order_11 : decode cX8_order 11 = .ok (.iload_n 2, 1) := by decide +kernel
theorem dX8_order_12 : decode cX8_order 12 = .ok (.bipush (-2), 2) := by decide +kernel
theorem dX8_order_14 : decode cX8_order 14 = .ok (.if_icmp .ge 5, 3) := by decide +kernel
theorem dX8_order_17 : decode cX8_order 17 = .ok (.iconst (-1), 1) := by decide +kernel
theorem dX8_order_18 : decode cX8_order 18 = .ok (.ireturn, 1) := by decide +kernel
theorem dX8_order_19 : decode cX8_order 19 = .ok (.iload_n 2, 1) := by decide +kernel
theorem dX8_order_20 : decode cX8_order 20 = .ok (.iload_n 1, 1) := by decide +kernel
theorem dX8_order_21 : decode cX8_order 21 = .ok (.if_icmp .lt 6, 3) := by decide +kernel
theorem dX8_order_24 : decode cX8_order 24 = .ok (.bipush (-4), 2) := by decide +kernel
theorem dX8_order_26 : decode cX8_order 26 = .ok (.ireturn, 1) := by decide +kernel
theorem dX8_order_27 : decode cX8_order 27 = .ok (.aload_n 0, 1) := by decide +kernel
theorem dX8_order_28 : decode cX8_order 28 = .ok (.getfield 43, 3) := by decide +kernel
theorem dX8_order_31 : decode cX8_order 31 = .ok (.iload_n 1, 1) := by decide +kernel
theorem dX8_order_32 : decode cX8_order 32 = .ok (.invokevirtual 202, 3) := by decide +kernel
theorem dX8_order_35 : decode cX8_order 35 = .ok (.iload_n 2, 1) := by decide +kernel
theorem dX8_order_36 : decode cX8_order 36 = .ok (.bipush (-2), 2) := by decide +kernel
theorem dX8_order_38 : decode cX8_order 38 = .ok (.if_icmp .ne 11, 3) := by decide +kernel
theorem dX8_order_41 : decode cX8_order 41 = .ok (.aload_n 0, 1) := by decide +kernel
theorem dX8_order_42 : decode cX8_order 42 = .ok (.getfield 43, 3) := by decide +kernel
theorem dX8_order_45 : decode cX8_order 45 = .ok (.invokevirtual 205, 3) := by decide +kernel
theorem dX8_order_48 : decode cX8_order 48 = .ok (.ireturn, 1) := by decide +kernel
theorem dX8_order_49 : decode cX8_order 49 = .ok (.iload_n 2, 1) := by decide +kernel
theorem dX8_order_50 : decode cX8_order 50 = .ok (.iconst (-1), 1) := by decide +kernel
theorem dX8_order_51 : decode cX8_order 51 = .ok (.if_icmp .ne 13, 3) := by decide +kernel
theorem dX8_order_54 : decode cX8_order 54 = .ok (.aload_n 0, 1) := by decide +kernel
theorem dX8_order_55 : decode cX8_order 55 = .ok (.getfield 43, 3) := by decide +kernel
theorem dX8_order_58 : decode cX8_order 58 = .ok (.invokevirtual 208, 3) := by decide +kernel
theorem dX8_order_61 : decode cX8_order 61 = .ok (.goto 12, 3) := by decide +kernel
theorem dX8_order_64 : decode cX8_order 64 = .ok (.aload_n 0, 1) := by decide +kernel
theorem dX8_order_65 : decode cX8_order 65 = .ok (.getfield 43, 3) := by decide +kernel
theorem dX8_order_68 : decode cX8_order 68 = .ok (.getfield 211, 3) := by decide +kernel
theorem dX8_order_71 : decode cX8_order 71 = .ok (.iload_n 2, 1) := by decide +kernel
theorem dX8_order_72 : decode cX8_order 72 = .ok (.iaload, 1) := by decide +kernel
theorem dX8_order_73 : decode cX8_order 73 = .ok (.ireturn, 1) := by decide +kernel
theorem dX8_undo_0 : decode cX8_undo 0 = .ok (.aload_n 0, 1) := by decide +kernel
theorem dX8_undo_1 : decode cX8_undo 1 = .ok (.getfield 50, 3) := by decide +kernel
theorem dX8_undo_4 : decode cX8_undo 4 = .ok (.getfield 214, 3) := by decide +kernel
theorem dX8_undo_7 : decode cX8_undo 7 = .ok (.ifCond .ne 6, 3) := by decide +kernel
theorem dX8_undo_10 : decode cX8_undo 10 = .ok (.bipush (-2), 2) := by decide +kernel
theorem dX8_undo_12 : decode cX8_undo 12 = .ok (.ireturn, 1) := by decide +kernel
theorem dX8_undo_13 : decode cX8_undo 13 = .ok (.aload_n 0, 1) := by decide +kernel
theorem dX8_undo_14 : decode cX8_undo 14 = .ok (.getfield 50, 3) := by decide +kernel
theorem dX8_undo_17 : decode cX8_undo 17 = .ok (.dup, 1) := by decide +kernel
theorem dX8_undo_18 : decode cX8_undo 18 = .ok (.getfield 214, 3) := by decide +kernel
theorem dX8_undo_21 : decode cX8_undo 21 = .ok (.iconst 1, 1) := by decide +kernel
theorem dX8_undo_22 : decode cX8_undo 22 = .ok (.isub, 1) := by decide +kernel
theorem dX8_undo_23 : decode cX8_undo 23 = .ok (.putfield 214, 3) := by decide +kernel
theorem dX8_undo_26 : decode cX8_undo 26 = .ok (.aload_n 0, 1) := by decide +kernel
theorem dX8_undo_27 : decode cX8_undo 27 = .ok (.getfield 50, 3) := by decide +kernel
theorem dX8_undo_30 : decode cX8_undo 30 = .ok (.getfield 215, 3) := by decide +kernel
theorem dX8_undo_33 : decode cX8_undo 33 = .ok (.aload_n 0, 1) := by decide +kernel
theorem dX8_undo_34 : decode cX8_undo 34 = .ok (.getfield 50, 3) := by decide +kernel
theorem dX8_undo_37 : decode cX8_undo 37 = .ok (.getfield 214, 3) := by decide +kernel
theorem dX8_undo_40 : decode cX8_undo 40 = .ok (.iaload, 1) := by decide +kernel
theorem dX8_undo_41 : decode cX8_undo 41 = .ok (.istore_n 1, 1) := by decide +kernel
theorem dX8_undo_42 : decode cX8_undo 42 = .ok (.aload_n 0, 1) := by decide +kernel
theorem dX8_undo_43 : decode cX8_undo 43 = .ok (.getfield 50, 3) := by decide +kernel
theorem dX8_undo_46 : decode cX8_undo 46 = .ok (.getfield 217, 3) := by decide +kernel
theorem dX8_undo_49 : decode cX8_undo 49 = .ok (.aload_n 0, 1) := by decide +kernel
theorem dX8_undo_50 : decode cX8_undo 50 = .ok (.getfield 50, 3) := by decide +kernel
theorem dX8_undo_53 : decode cX8_undo 53 = .ok (.getfield 214, 3) := by decide +kernel
theorem dX8_undo_56 : decode cX8_undo 56 = .ok (.iaload, 1) := by decide +kernel
theorem dX8_undo_57 : decode cX8_undo 57 = .ok (.istore_n 2, 1) := by decide +kernel
theorem dX8_undo_58 : decode cX8_undo 58 = .ok (.aload_n 0, 1) := by decide +kernel
theorem dX8_undo_59 : decode cX8_undo 59 = .ok (.getfield 11, 3) := by decide +kernel
theorem dX8_undo_62 : decode cX8_undo 62 = .ok (.iload_n 1, 1) := by decide +kernel
theorem dX8_undo_63 : decode cX8_undo 63 = .ok (.aaload, 1) := by decide +kernel
theorem dX8_undo_64 : decode cX8_undo 64 = .ok (.getfield 112, 3) := by decide +kernel
theorem dX8_undo_67 : decode cX8_undo 67 = .ok (.iload_n 2, 1) := by decide +kernel
theorem dX8_undo_68 : decode cX8_undo 68 = .ok (.aload_n 0, 1) := by decide +kernel
theorem dX8_undo_69 : decode cX8_undo 69 = .ok (.getfield 50, 3) := by decide +kernel
theorem dX8_undo_72 : decode cX8_undo 72 = .ok (.getfield 220, 3) := by decide +kernel
theorem dX8_undo_75 : decode cX8_undo 75 = .ok (.aload_n 0, 1) := by decide +kernel
theorem dX8_undo_76 : decode cX8_undo 76 = .ok (.getfield 50, 3) := by decide +kernel
theorem dX8_undo_79 : decode cX8_undo 79 = .ok (.getfield 214, 3) := by decide +kernel
theorem dX8_undo_82 : decode cX8_undo 82 = .ok (.iaload, 1) := by decide +kernel
theorem dX8_undo_83 : decode cX8_undo 83 = .ok (.iastore, 1) := by decide +kernel
theorem dX8_undo_84 : decode cX8_undo 84 = .ok (.iload_n 1, 1) := by decide +kernel
theorem dX8_undo_85 : decode cX8_undo 85 = .ok (.bipush 100, 2) := by decide +kernel
theorem dX8_undo_87 : decode cX8_undo 87 = .ok (.imul, 1) := by decide +kernel
theorem dX8_undo_88 : decode cX8_undo 88 = .ok (.iload_n 2, 1) := by decide +kernel
theorem dX8_undo_89 : decode cX8_undo 89 = .ok (.iadd, 1) := by decide +kernel
theorem dX8_undo_90 : decode cX8_undo 90 = .ok (.ireturn, 1) := by decide +kernel
theorem dX8_count_0 : decode cX8_count 0 = .ok (.iload_n 1, 1) := by decide +kernel
theorem dX8_count_1 : decode cX8_count 1 = .ok (.tableswitch 72 0 4 #[35, 40, 48, 56, 64], 35) := by decide +kernel
theorem dX8_count_36 : decode cX8_count 36 = .ok (.aload_n 0, 1) := by decide +kernel
theorem dX8_count_37 : decode cX8_count 37 = .ok (.getfield 64, 3) := by decide +kernel
theorem dX8_count_40 : decode cX8_count 40 = .ok (.ireturn, 1) := by decide +kernel
theorem dX8_count_41 : decode cX8_count 41 = .ok (.aload_n 0, 1) := by decide +kernel
theorem dX8_count_42 : decode cX8_count 42 = .ok (.getfield 18, 3) := by decide +kernel
theorem dX8_count_45 : decode cX8_count 45 = .ok (.getfield 121, 3) := by decide +kernel
theorem dX8_count_48 : decode cX8_count 48 = .ok (.ireturn, 1) := by decide +kernel
theorem dX8_count_49 : decode cX8_count 49 = .ok (.aload_n 0, 1) := by decide +kernel
theorem dX8_count_50 : decode cX8_count 50 = .ok (.getfield 36, 3) := by decide +kernel
theorem dX8_count_53 : decode cX8_count 53 = .ok (.getfield 187, 3) := by decide +kernel
theorem dX8_count_56 : decode cX8_count 56 = .ok (.ireturn, 1) := by decide +kernel
theorem dX8_count_57 : decode cX8_count 57 = .ok (.aload_n 0, 1) := by decide +kernel
theorem dX8_count_58 : decode cX8_count 58 = .ok (.getfield 43, 3) := by decide +kernel
theorem dX8_count_61 : decode cX8_count 61 = .ok (.getfield 197, 3) := by decide +kernel
theorem dX8_count_64 : decode cX8_count 64 = .ok (.ireturn, 1) := by decide +kernel
theorem dX8_count_65 : decode cX8_count 65 = .ok (.aload_n 0, 1) := by decide +kernel
theorem dX8_count_66 : decode cX8_count 66 = .ok (.getfield 50, 3) := by decide +kernel
theorem dX8_count_69 : decode cX8_count 69 = .ok (.getfield 214, 3) := by decide +kernel
theorem dX8_count_72 : decode cX8_count 72 = .ok (.ireturn, 1) := by decide +kernel
theorem dX8_count_73 : decode cX8_count 73 = .ok (.iconst (-1), 1) := by decide +kernel
theorem dX8_count_74 : decode cX8_count 74 = .ok (.ireturn, 1) := by decide +kernel
theorem dX8_isWithin_0 : decode cX8_isWithin 0 = .ok (.iload_n 0, 1) := by decide +kernel
theorem dX8_isWithin_1 : decode cX8_isWithin 1 = .ok (.ifCond .lt 12, 3) := by decide +kernel
theorem dX8_isWithin_4 : decode cX8_isWithin 4 = .ok (.iload_n 0, 1) := by decide +kernel
theorem dX8_isWithin_5 : decode cX8_isWithin 5 = .ok (.iload_n 1, 1) := by decide +kernel
theorem dX8_isWithin_6 : decode cX8_isWithin 6 = .ok (.if_icmp .gt 7, 3) := by decide +kernel
theorem dX8_isWithin_9 : decode cX8_isWithin 9 = .ok (.iconst 1, 1) := by decide +kernel
theorem dX8_isWithin_10 : decode cX8_isWithin 10 = .ok (.goto 4, 3) := by decide +kernel
theorem dX8_isWithin_13 : decode cX8_isWithin 13 = .ok (.iconst 0, 1) := by decide +kernel
theorem dX8_isWithin_14 : decode cX8_isWithin 14 = .ok (.ireturn, 1) := by decide +kernel
theorem dX8_isCopy_0 : decode cX8_isCopy 0 = .ok (.iload_n 1, 1) := by decide +kernel
theorem dX8_isCopy_1 : decode cX8_isCopy 1 = .ok (.ifCond .lt 15, 3) := by decide +kernel
theorem dX8_isCopy_4 : decode cX8_isCopy 4 = .ok (.iload_n 1, 1) := by decide +kernel
theorem dX8_isCopy_5 : decode cX8_isCopy 5 = .ok (.aload_n 0, 1) := by decide +kernel
theorem dX8_isCopy_6 : decode cX8_isCopy 6 = .ok (.getfield 64, 3) := by decide +kernel
theorem dX8_isCopy_9 : decode cX8_isCopy 9 = .ok (.if_icmp .ge 7, 3) := by decide +kernel
theorem dX8_isCopy_12 : decode cX8_isCopy 12 = .ok (.iconst 1, 1) := by decide +kernel
theorem dX8_isCopy_13 : decode cX8_isCopy 13 = .ok (.goto 4, 3) := by decide +kernel
theorem dX8_isCopy_16 : decode cX8_isCopy 16 = .ok (.iconst 0, 1) := by decide +kernel
theorem dX8_isCopy_17 : decode cX8_isCopy 17 = .ok (.ireturn, 1) := by decide +kernel
theorem dX8_isFrame_0 : decode cX8_isFrame 0 = .ok (.aload_n 0, 1) := by decide +kernel
theorem dX8_isFrame_1 : decode cX8_isFrame 1 = .ok (.iload_n 1, 1) := by decide +kernel
theorem dX8_isFrame_2 : decode cX8_isFrame 2 = .ok (.invokevirtual 68, 3) := by decide +kernel
theorem dX8_isFrame_5 : decode cX8_isFrame 5 = .ok (.ifCond .eq 24, 3) := by decide +kernel
theorem dX8_isFrame_8 : decode cX8_isFrame 8 = .ok (.iload_n 2, 1) := by decide +kernel
theorem dX8_isFrame_9 : decode cX8_isFrame 9 = .ok (.ifCond .lt 20, 3) := by decide +kernel
theorem dX8_isFrame_12 : decode cX8_isFrame 12 = .ok (.iload_n 2, 1) := by decide +kernel
theorem dX8_isFrame_13 : decode cX8_isFrame 13 = .ok (.aload_n 0, 1) := by decide +kernel
theorem dX8_isFrame_14 : decode cX8_isFrame 14 = .ok (.getfield 11, 3) := by decide +kernel
theorem dX8_isFrame_17 : decode cX8_isFrame 17 = .ok (.iload_n 1, 1) := by decide +kernel
theorem dX8_isFrame_18 : decode cX8_isFrame 18 = .ok (.aaload, 1) := by decide +kernel
theorem dX8_isFrame_19 : decode cX8_isFrame 19 = .ok (.getfield 83, 3) := by decide +kernel
theorem dX8_isFrame_22 : decode cX8_isFrame 22 = .ok (.if_icmp .ge 7, 3) := by decide +kernel
theorem dX8_isFrame_25 : decode cX8_isFrame 25 = .ok (.iconst 1, 1) := by decide +kernel
theorem dX8_isFrame_26 : decode cX8_isFrame 26 = .ok (.goto 4, 3) := by decide +kernel
theorem dX8_isFrame_29 : decode cX8_isFrame 29 = .ok (.iconst 0, 1) := by decide +kernel
theorem dX8_isFrame_30 : decode cX8_isFrame 30 = .ok (.ireturn, 1) := by decide +kernel
theorem dX8_isRow_0 : decode cX8_isRow 0 = .ok (.iload_n 1, 1) := by decide +kernel
theorem dX8_isRow_1 : decode cX8_isRow 1 = .ok (.iconst (-1), 1) := by decide +kernel
theorem dX8_isRow_2 : decode cX8_isRow 2 = .ok (.if_icmp .eq 11, 3) := by decide +kernel
theorem dX8_isRow_5 : decode cX8_isRow 5 = .ok (.aload_n 0, 1) := by decide +kernel
theorem dX8_isRow_6 : decode cX8_isRow 6 = .ok (.iload_n 1, 1) := by decide +kernel
theorem dX8_isRow_7 : decode cX8_isRow 7 = .ok (.invokevirtual 68, 3) := by decide +kernel
theorem dX8_isRow_10 : decode cX8_isRow 10 = .ok (.ifCond .eq 7, 3) := by decide +kernel
theorem dX8_isRow_13 : decode cX8_isRow 13 = .ok (.iconst 1, 1) := by decide +kernel
theorem dX8_isRow_14 : decode cX8_isRow 14 = .ok (.goto 4, 3) := by decide +kernel
theorem dX8_isRow_17 : decode cX8_isRow 17 = .ok (.iconst 0, 1) := by decide +kernel
theorem dX8_isRow_18 : decode cX8_isRow 18 = .ok (.ireturn, 1) := by decide +kernel
theorem dX8_sizeOfRow_0 : decode cX8_sizeOfRow 0 = .ok (.iload_n 1, 1) := by decide +kernel
theorem dX8_sizeOfRow_1 : decode cX8_sizeOfRow 1 = .ok (.iconst (-1), 1) := by decide +kernel
theorem dX8_sizeOfRow_2 : decode cX8_sizeOfRow 2 = .ok (.if_icmp .ne 13, 3) := by decide +kernel
theorem dX8_sizeOfRow_5 : decode cX8_sizeOfRow 5 = .ok (.aload_n 0, 1) := by decide +kernel
theorem dX8_sizeOfRow_6 : decode cX8_sizeOfRow 6 = .ok (.getfield 18, 3) := by decide +kernel
theorem dX8_sizeOfRow_9 : decode cX8_sizeOfRow 9 = .ok (.getfield 121, 3) := by decide +kernel
theorem dX8_sizeOfRow_12 : decode cX8_sizeOfRow 12 = .ok (.goto 12, 3) := by decide +kernel
theorem dX8_sizeOfRow_15 : decode cX8_sizeOfRow 15 = .ok (.aload_n 0, 1) := by decide +kernel
theorem dX8_sizeOfRow_16 : decode cX8_sizeOfRow 16 = .ok (.getfield 11, 3) := by decide +kernel
theorem dX8_sizeOfRow_19 : decode cX8_sizeOfRow 19 = .ok (.iload_n 1, 1) := by decide +kernel
theorem dX8_sizeOfRow_20 : decode cX8_sizeOfRow 20 = .ok (.aaload, 1) := by decide +kernel
theorem dX8_sizeOfRow_21 : decode cX8_sizeOfRow 21 = .ok (.getfield 83, 3) := by decide +kernel
theorem dX8_sizeOfRow_24 : decode cX8_sizeOfRow 24 = .ok (.ireturn, 1) := by decide +kernel
theorem dX8_marksOfRow_0 : decode cX8_marksOfRow 0 = .ok (.iload_n 1, 1) := by decide +kernel
theorem dX8_marksOfRow_1 : decode cX8_marksOfRow 1 = .ok (.iconst (-1), 1) := by decide +kernel
theorem dX8_marksOfRow_2 : decode cX8_marksOfRow 2 = .ok (.if_icmp .ne 13, 3) := by decide +kernel
theorem dX8_marksOfRow_5 : decode cX8_marksOfRow 5 = .ok (.aload_n 0, 1) := by decide +kernel
theorem dX8_marksOfRow_6 : decode cX8_marksOfRow 6 = .ok (.getfield 18, 3) := by decide +kernel
theorem dX8_marksOfRow_9 : decode cX8_marksOfRow 9 = .ok (.getfield 221, 3) := by decide +kernel
theorem dX8_marksOfRow_12 : decode cX8_marksOfRow 12 = .ok (.goto 12, 3) := by decide +kernel
theorem dX8_marksOfRow_15 : decode cX8_marksOfRow 15 = .ok (.aload_n 0, 1) := by decide +kernel
theorem dX8_marksOfRow_16 : decode cX8_marksOfRow 16 = .ok (.getfield 11, 3) := by decide +kernel
theorem dX8_marksOfRow_19 : decode cX8_marksOfRow 19 = .ok (.iload_n 1, 1) := by decide +kernel
theorem dX8_marksOfRow_20 : decode cX8_marksOfRow 20 = .ok (.aaload, 1) := by decide +kernel
theorem dX8_marksOfRow_21 : decode cX8_marksOfRow 21 = .ok (.getfield 109, 3) := by decide +kernel
theorem dX8_marksOfRow_24 : decode cX8_marksOfRow 24 = .ok (.areturn, 1) := by decide +kernel
theorem dX8_changeWear_0 : decode cX8_changeWear 0 = .ok (.aload_n 0, 1) := by decide +kernel
theorem dX8_changeWear_1 : decode cX8_changeWear 1 = .ok (.getfield 11, 3) := by decide +kernel
theorem dX8_changeWear_4 : decode cX8_changeWear 4 = .ok (.iload_n 1, 1) := by decide +kernel
theorem dX8_changeWear_5 : decode cX8_changeWear 5 = .ok (.aaload, 1) := by decide +kernel
theorem dX8_changeWear_6 : decode cX8_changeWear 6 = .ok (.getfield 112, 3) := by decide +kernel
theorem dX8_changeWear_9 : decode cX8_changeWear 9 = .ok (.astore 4, 2) := by decide +kernel
theorem dX8_changeWear_11 : decode cX8_changeWear 11 = .ok (.aload_n 0, 1) := by decide +kernel
theorem dX8_changeWear_12 : decode cX8_changeWear 12 = .ok (.getfield 50, 3) := by decide +kernel
theorem dX8_changeWear_15 : decode cX8_changeWear 15 = .ok (.iload_n 1, 1) := by decide +kernel
theorem dX8_changeWear_16 : decode cX8_changeWear 16 = .ok (.iload_n 2, 1) := by decide +kernel
theorem dX8_changeWear_17 : decode cX8_changeWear 17 = .ok (.aload 4, 2) := by decide +kernel
theorem dX8_changeWear_19 : decode cX8_changeWear 19 = .ok (.iload_n 2, 1) := by decide +kernel
theorem dX8_changeWear_20 : decode cX8_changeWear 20 = .ok (.iaload, 1) := by decide +kernel
theorem dX8_changeWear_21 : decode cX8_changeWear 21 = .ok (.invokevirtual 222, 3) := by decide +kernel
theorem dX8_changeWear_24 : decode cX8_changeWear 24 = .ok (.aload 4, 2) := by decide +kernel
theorem dX8_changeWear_26 : decode cX8_changeWear 26 = .ok (.iload_n 2, 1) := by decide +kernel
theorem dX8_changeWear_27 : decode cX8_changeWear 27 = .ok (.iload_n 3, 1) := by decide +kernel
theorem dX8_changeWear_28 : decode cX8_changeWear 28 = .ok (.iastore, 1) := by decide +kernel
theorem dX8_changeWear_29 : decode cX8_changeWear 29 = .ok (.return_, 1) := by decide +kernel
theorem dX8_isCounted_0 : decode cX8_isCounted 0 = .ok (.iload_n 1, 1) := by decide +kernel
theorem dX8_isCounted_1 : decode cX8_isCounted 1 = .ok (.lookupswitch 56 #[(0, 27), (1, 47)], 27) := by decide +kernel
theorem dX8_isCounted_28 : decode cX8_isCounted 28 = .ok (.aload_n 0, 1) := by decide +kernel
theorem dX8_isCounted_29 : decode cX8_isCounted 29 = .ok (.getfield 60, 3) := by decide +kernel
theorem dX8_isCounted_32 : decode cX8_isCounted 32 = .ok (.getfield 166, 3) := by decide +kernel
theorem dX8_isCounted_35 : decode cX8_isCounted 35 = .ok (.iload_n 2, 1) := by decide +kernel
theorem dX8_isCounted_36 : decode cX8_isCounted 36 = .ok (.iaload, 1) := by decide +kernel
theorem dX8_isCounted_37 : decode cX8_isCounted 37 = .ok (.bipush 6, 2) := by decide +kernel
theorem dX8_isCounted_39 : decode cX8_isCounted 39 = .ok (.if_icmp .ne 7, 3) := by decide +kernel
theorem dX8_isCounted_42 : decode cX8_isCounted 42 = .ok (.iconst 1, 1) := by decide +kernel
theorem dX8_isCounted_43 : decode cX8_isCounted 43 = .ok (.goto 4, 3) := by decide +kernel
theorem dX8_isCounted_46 : decode cX8_isCounted 46 = .ok (.iconst 0, 1) := by decide +kernel
theorem dX8_isCounted_47 : decode cX8_isCounted 47 = .ok (.ireturn, 1) := by decide +kernel
theorem dX8_isCounted_48 : decode cX8_isCounted 48 = .ok (.aload_n 0, 1) := by decide +kernel
theorem dX8_isCounted_49 : decode cX8_isCounted 49 = .ok (.getfield 60, 3) := by decide +kernel
theorem dX8_isCounted_52 : decode cX8_isCounted 52 = .ok (.iload_n 2, 1) := by decide +kernel
theorem dX8_isCounted_53 : decode cX8_isCounted 53 = .ok (.invokevirtual 225, 3) := by decide +kernel
theorem dX8_isCounted_56 : decode cX8_isCounted 56 = .ok (.ireturn, 1) := by decide +kernel
theorem dX8_isCounted_57 : decode cX8_isCounted 57 = .ok (.aload_n 0, 1) := by decide +kernel
theorem dX8_isCounted_58 : decode cX8_isCounted 58 = .ok (.getfield 60, 3) := by decide +kernel
theorem dX8_isCounted_61 : decode cX8_isCounted 61 = .ok (.iload_n 2, 1) := by decide +kernel
theorem dX8_isCounted_62 : decode cX8_isCounted 62 = .ok (.invokevirtual 228, 3) := by decide +kernel
theorem dX8_isCounted_65 : decode cX8_isCounted 65 = .ok (.ireturn, 1) := by decide +kernel
theorem dX8_tintOfLeastWorn_0 : decode cX8_tintOfLeastWorn 0 = .ok (.bipush 10, 2) := by decide +kernel
theorem dX8_tintOfLeastWorn_2 : decode cX8_tintOfLeastWorn 2 = .ok (.istore_n 2, 1) := by decide +kernel
theorem dX8_tintOfLeastWorn_3 : decode cX8_tintOfLeastWorn 3 = .ok (.iconst 0, 1) := by decide +kernel
theorem dX8_tintOfLeastWorn_4 : decode cX8_tintOfLeastWorn 4 = .ok (.istore_n 3, 1) := by decide +kernel
theorem dX8_tintOfLeastWorn_5 : decode cX8_tintOfLeastWorn 5 = .ok (.iconst 0, 1) := by decide +kernel
theorem dX8_tintOfLeastWorn_6 : decode cX8_tintOfLeastWorn 6 = .ok (.istore 4, 2) := by decide +kernel
theorem dX8_tintOfLeastWorn_8 : decode cX8_tintOfLeastWorn 8 = .ok (.iload 4, 2) := by decide +kernel
theorem dX8_tintOfLeastWorn_10 : decode cX8_tintOfLeastWorn 10 = .ok (.aload_n 0, 1) := by decide +kernel
theorem dX8_tintOfLeastWorn_11 : decode cX8_tintOfLeastWorn 11 = .ok (.getfield 64, 3) := by decide +kernel
theorem dX8_tintOfLeastWorn_14 : decode cX8_tintOfLeastWorn 14 = .ok (.if_icmp .ge 86, 3) := by decide +kernel
theorem dX8_tintOfLeastWorn_17 : decode cX8_tintOfLeastWorn 17 = .ok (.aload_n 0, 1) := by decide +kernel
theorem dX8_tintOfLeastWorn_18 : decode cX8_tintOfLeastWorn 18 = .ok (.getfield 60, 3) := by decide +kernel
theorem dX8_tintOfLeastWorn_21 : decode cX8_tintOfLeastWorn 21 = .ok (.getfield 156, 3) := by decide +kernel
theorem dX8_tintOfLeastWorn_24 : decode cX8_tintOfLeastWorn 24 = .ok (.iload 4, 2) := by decide +kernel
theorem dX8_tintOfLeastWorn_26 : decode cX8_tintOfLeastWorn 26 = .ok (.aaload, 1) := by decide +kernel
theorem dX8_tintOfLeastWorn_27 : decode cX8_tintOfLeastWorn 27 = .ok (.iload_n 1, 1) := by decide +kernel
theorem dX8_tintOfLeastWorn_28 : decode cX8_tintOfLeastWorn 28 = .ok (.iaload, 1) := by decide +kernel
theorem dX8_tintOfLeastWorn_29 : decode cX8_tintOfLeastWorn 29 = .ok (.istore 5, 2) := by decide +kernel
theorem dX8_tintOfLeastWorn_31 : decode cX8_tintOfLeastWorn 31 = .ok (.iload 5, 2) := by decide +kernel
theorem dX8_tintOfLeastWorn_33 : decode cX8_tintOfLeastWorn 33 = .ok (.bipush (-4), 2) := by decide +kernel
theorem dX8_tintOfLeastWorn_35 : decode cX8_tintOfLeastWorn 35 = .ok (.if_icmp .ne 7, 3) := by decide +kernel
theorem dX8_tintOfLeastWorn_38 : decode cX8_tintOfLeastWorn 38 = .ok (.iconst 0, 1) := by decide +kernel
theorem dX8_tintOfLeastWorn_39 : decode cX8_tintOfLeastWorn 39 = .ok (.goto 14, 3) := by decide +kernel
theorem dX8_tintOfLeastWorn_42 : decode cX8_tintOfLeastWorn 42 = .ok (.aload_n 0, 1) := by decide +kernel
theorem dX8_tintOfLeastWorn_43 : decode cX8_tintOfLeastWorn 43 = .ok (.getfield 36, 3) := by decide +kernel
theorem dX8_tintOfLeastWorn_46 : decode cX8_tintOfLeastWorn 46 = .ok (.iload 4, 2) := by decide +kernel
theorem dX8_tintOfLeastWorn_48 : decode cX8_tintOfLeastWorn 48 = .ok (.iload 5, 2) := by decide +kernel
theorem dX8_tintOfLeastWorn_50 : decode cX8_tintOfLeastWorn 50 = .ok (.invokevirtual 191, 3) := by decide +kernel
theorem dX8_tintOfLeastWorn_53 : decode cX8_tintOfLeastWorn 53 = .ok (.istore 6, 2) := by decide +kernel
theorem dX8_tintOfLeastWorn_55 : decode cX8_tintOfLeastWorn 55 = .ok (.iload 6, 2) := by decide +kernel
theorem dX8_tintOfLeastWorn_57 : decode cX8_tintOfLeastWorn 57 = .ok (.ifCond .eq 37, 3) := by decide +kernel
theorem dX8_tintOfLeastWorn_60 : decode cX8_tintOfLeastWorn 60 = .ok (.aload_n 0, 1) := by decide +kernel
theorem dX8_tintOfLeastWorn_61 : decode cX8_tintOfLeastWorn 61 = .ok (.getfield 11, 3) := by decide +kernel
theorem dX8_tintOfLeastWorn_64 : decode cX8_tintOfLeastWorn 64 = .ok (.iload 4, 2) := by decide +kernel
theorem dX8_tintOfLeastWorn_66 : decode cX8_tintOfLeastWorn 66 = .ok (.aaload, 1) := by decide +kernel
theorem dX8_tintOfLeastWorn_67 : decode cX8_tintOfLeastWorn 67 = .ok (.getfield 112, 3) := by decide +kernel
theorem dX8_tintOfLeastWorn_70 : decode cX8_tintOfLeastWorn 70 = .ok (.iload 5, 2) := by decide +kernel
theorem dX8_tintOfLeastWorn_72 : decode cX8_tintOfLeastWorn 72 = .ok (.iaload, 1) := by decide +kernel
theorem dX8_tintOfLeastWorn_73 : decode cX8_tintOfLeastWorn 73 = .ok (.iload_n 2, 1) := by decide +kernel
theorem dX8_tintOfLeastWorn_74 : decode cX8_tintOfLeastWorn 74 = .ok (.if_icmp .ge 20, 3) := by decide +kernel
theorem dX8_tintOfLeastWorn_77 : decode cX8_tintOfLeastWorn 77 = .ok (.aload_n 0, 1) := by decide +kernel
theorem dX8_tintOfLeastWorn_78 : decode cX8_tintOfLeastWorn 78 = .ok (.getfield 11, 3) := by decide +kernel
theorem dX8_tintOfLeastWorn_81 : decode cX8_tintOfLeastWorn 81 = .ok (.iload 4, 2) := by decide +kernel
theorem dX8_tintOfLeastWorn_83 : decode cX8_tintOfLeastWorn 83 = .ok (.aaload, 1) := by decide +kernel
theorem dX8_tintOfLeastWorn_84 : decode cX8_tintOfLeastWorn 84 = .ok (.getfield 112, 3) := by decide +kernel
theorem dX8_tintOfLeastWorn_87 : decode cX8_tintOfLeastWorn 87 = .ok (.iload 5, 2) := by decide +kernel
theorem dX8_tintOfLeastWorn_89 : decode cX8_tintOfLeastWorn 89 = .ok (.iaload, 1) := by decide +kernel
theorem dX8_tintOfLeastWorn_90 : decode cX8_tintOfLeastWorn 90 = .ok (.istore_n 2, 1) := by decide +kernel
theorem dX8_tintOfLeastWorn_91 : decode cX8_tintOfLeastWorn 91 = .ok (.iload 6, 2) := by decide +kernel
theorem dX8_tintOfLeastWorn_93 : decode cX8_tintOfLeastWorn 93 = .ok (.istore_n 3, 1) := by decide +kernel
theorem dX8_tintOfLeastWorn_94 : decode cX8_tintOfLeastWorn 94 = .ok (.iinc 4 1, 3) := by decide +kernel
theorem dX8_tintOfLeastWorn_97 : decode cX8_tintOfLeastWorn 97 = .ok (.goto (-89), 3) := by decide +kernel
theorem dX8_tintOfLeastWorn_100 : decode cX8_tintOfLeastWorn 100 = .ok (.iload_n 3, 1) := by decide +kernel
theorem dX8_tintOfLeastWorn_101 : decode cX8_tintOfLeastWorn 101 = .ok (.ireturn, 1) := by decide +kernel
end
section
theorem dX9_init_0 : decode cX9_init 0 = .ok (.aload_n 0, 1) := by decide +kernel
theorem dX9_init_1 : decode cX9_init 1 = .ok (.invokespecial 1, 3) := by decide +kernel
theorem dX9_init_4 : decode cX9_init 4 = .ok (.aload_n 0, 1) := by decide +kernel
theorem dX9_init_5 : decode cX9_init 5 = .ok (.bipush 7, 2) := by decide +kernel
theorem dX9_init_7 : decode cX9_init 7 = .ok (.newarray .int, 2) := by decide +kernel
theorem dX9_init_9 : decode cX9_init 9 = .ok (.putfield 7, 3) := by decide +kernel
theorem dX9_init_12 : decode cX9_init 12 = .ok (.aload_n 0, 1) := by decide +kernel
theorem dX9_init_13 : decode cX9_init 13 = .ok (.sipush 280, 3) := by decide +kernel
theorem dX9_init_16 : decode cX9_init 16 = .ok (.newarray .int, 2) := by decide +kernel
theorem dX9_init_18 : decode cX9_init 18 = .ok (.putfield 13, 3) := by decide +kernel
theorem dX9_init_21 : decode cX9_init 21 = .ok (.aload_n 0, 1) := by decide +kernel
theorem dX9_init_22 : decode cX9_init 22 = .ok (.sipush 240, 3) := by decide +kernel
theorem dX9_init_25 : decode cX9_init 25 = .ok (.newarray .int, 2) := by decide +kernel
theorem dX9_init_27 : decode cX9_init 27 = .ok (.putfield 16, 3) := by decide +kernel
theorem dX9_init_30 : decode cX9_init 30 = .ok (.aload_n 0, 1) := by decide +kernel
theorem dX9_init_31 : decode cX9_init 31 = .ok (.sipush 240, 3) := by decide +kernel
theorem dX9_init_34 : decode cX9_init 34 = .ok (.newarray .int, 2) := by decide +kernel
theorem dX9_init_36 : decode cX9_init 36 = .ok (.putfield 19, 3) := by decide +kernel
theorem dX9_init_39 : decode cX9_init 39 = .ok (.aload_n 0, 1) := by decide +kernel
theorem dX9_init_40 : decode cX9_init 40 = .ok (.bipush 40, 2) := by decide +kernel
theorem dX9_init_42 : decode cX9_init 42 = .ok (.newarray .int, 2) := by decide +kernel
theorem dX9_init_44 : decode cX9_init 44 = .ok (.putfield 22, 3) := by decide +kernel
theorem dX9_init_47 : decode cX9_init 47 = .ok (.aload_n 0, 1) := by decide +kernel
theorem dX9_init_48 : decode cX9_init 48 = .ok (.iconst 4, 1) := by decide +kernel
theorem dX9_init_49 : decode cX9_init 49 = .ok (.newarray .int, 2) := by decide +kernel
theorem dX9_init_51 : decode cX9_init 51 = .ok (.putfield 25, 3) := by decide +kernel
theorem dX9_init_54 : decode cX9_init 54 = .ok (.aload_n 0, 1) := by decide +kernel
theorem dX9_init_55 : decode cX9_init 55 = .ok (.bipush 12, 2) := by decide +kernel
theorem dX9_init_57 : decode cX9_init 57 = .ok (.newarray .int, 2) := by decide +kernel
theorem dX9_init_59 : decode cX9_init 59 = .ok (.putfield 28, 3) := by decide +kernel
theorem dX9_init_62 : decode cX9_init 62 = .ok (.aload_n 0, 1) := by decide +kernel
theorem dX9_init_63 : decode cX9_init 63 = .ok (.bipush 12, 2) := by decide +kernel
theorem dX9_init_65 : decode cX9_init 65 = .ok (.newarray .int, 2) := by decide +kernel
theorem dX9_init_67 : decode cX9_init 67 = .ok (.putfield 31, 3) := by decide +kernel
theorem dX9_init_70 : decode cX9_init 70 = .ok (.aload_n 0, 1) := by decide +kernel
theorem dX9_init_71 : decode cX9_init 71 = .ok (.bipush 12, 2) := by decide +kernel
theorem dX9_init_73 : decode cX9_init 73 = .ok (.newarray .int, 2) := by decide +kernel
theorem dX9_init_75 : decode cX9_init 75 = .ok (.putfield 34, 3) := by decide +kernel
theorem dX9_init_78 : decode cX9_init 78 = .ok (.aload_n 0, 1) := by decide +kernel
theorem dX9_init_79 : decode cX9_init 79 = .ok (.bipush 12, 2) := by decide +kernel
theorem dX9_init_81 : decode cX9_init 81 = .ok (.newarray .int, 2) := by decide +kernel
theorem dX9_init_83 : decode cX9_init 83 = .ok (.putfield 37, 3) := by decide +kernel
theorem dX9_init_86 : decode cX9_init 86 = .ok (.aload_n 0, 1) := by decide +kernel
theorem dX9_init_87 : decode cX9_init 87 = .ok (.bipush 20, 2) := by decide +kernel
theorem dX9_init_89 : decode cX9_init 89 = .ok (.newarray .int, 2) := by decide +kernel
theorem dX9_init_91 : decode cX9_init 91 = .ok (.putfield 40, 3) := by decide +kernel
theorem dX9_init_94 : decode cX9_init 94 = .ok (.aload_n 0, 1) := by decide +kernel
theorem dX9_init_95 : decode cX9_init 95 = .ok (.bipush 20, 2) := by decide +kernel
theorem dX9_init_97 : decode cX9_init 97 = .ok (.newarray .int, 2) := by decide +kernel
theorem dX9_init_99 : decode cX9_init 99 = .ok (.putfield 43, 3) := by decide +kernel
theorem dX9_init_102 : decode cX9_init 102 = .ok (.aload_n 0, 1) := by decide +kernel
theorem dX9_init_103 : decode cX9_init 103 = .ok (.bipush 20, 2) := by decide +kernel
theorem dX9_init_105 : decode cX9_init 105 = .ok (.newarray .int, 2) := by decide +kernel
theorem dX9_init_107 : decode cX9_init 107 = .ok (.putfield 46, 3) := by decide +kernel
theorem dX9_init_110 : decode cX9_init 110 = .ok (.aload_n 0, 1) := by decide +kernel
theorem dX9_init_111 : decode cX9_init 111 = .ok (.bipush 30, 2) := by decide +kernel
theorem dX9_init_113 : decode cX9_init 113 = .ok (.newarray .int, 2) := by decide +kernel
theorem dX9_init_115 : decode cX9_init 115 = .ok (.putfield 49, 3) := by decide +kernel
theorem dX9_init_118 : decode cX9_init 118 = .ok (.aload_n 0, 1) := by decide +kernel
theorem dX9_init_119 : decode cX9_init 119 = .ok (.bipush 30, 2) := by decide +kernel
theorem dX9_init_121 : decode cX9_init 121 = .ok (.newarray .int, 2) := by decide +kernel
theorem dX9_init_123 : decode cX9_init 123 = .ok (.putfield 52, 3) := by decide +kernel
theorem dX9_init_126 : decode cX9_init 126 = .ok (.aload_n 0, 1) := by decide +kernel
theorem dX9_init_127 : decode cX9_init 127 = .ok (.sipush 1681, 3) := by decide +kernel
theorem dX9_init_130 : decode cX9_init 130 = .ok (.newarray .int, 2) := by decide +kernel
theorem dX9_init_132 : decode cX9_init 132 = .ok (.putfield 55, 3) := by decide +kernel
theorem dX9_init_135 : decode cX9_init 135 = .ok (.aload_n 0, 1) := by decide +kernel
theorem dX9_init_136 : decode cX9_init 136 = .ok (.bipush 40, 2) := by decide +kernel
theorem dX9_init_138 : decode cX9_init 138 = .ok (.newarray .int, 2) := by decide +kernel
theorem dX9_init_140 : decode cX9_init 140 = .ok (.putfield 58, 3) := by decide +kernel
theorem dX9_init_143 : decode cX9_init 143 = .ok (.aload_n 0, 1) := by decide +kernel
theorem dX9_init_144 : decode cX9_init 144 = .ok (.sipush 240, 3) := by decide +kernel
theorem dX9_init_147 : decode cX9_init 147 = .ok (.newarray .int, 2) := by decide +kernel
theorem dX9_init_149 : decode cX9_init 149 = .ok (.putfield 61, 3) := by decide +kernel
theorem dX9_init_152 : decode cX9_init 152 = .ok (.aload_n 0, 1) := by decide +kernel
theorem dX9_init_153 : decode cX9_init 153 = .ok (.sipush 280, 3) := by decide +kernel
theorem dX9_init_156 : decode cX9_init 156 = .ok (.newarray .int, 2) := by decide +kernel
theorem dX9_init_158 : decode cX9_init 158 = .ok (.putfield 64, 3) := by decide +kernel
theorem dX9_init_161 : decode cX9_init 161 = .ok (.aload_n 0, 1) := by decide +kernel
theorem dX9_init_162 : decode cX9_init 162 = .ok (.bipush 40, 2) := by decide +kernel
theorem dX9_init_164 : decode cX9_init 164 = .ok (.newarray .int, 2) := by decide +kernel
theorem dX9_init_166 : decode cX9_init 166 = .ok (.putfield 67, 3) := by decide +kernel
theorem dX9_init_169 : decode cX9_init 169 = .ok (.aload_n 0, 1) := by decide +kernel
theorem dX9_init_170 : decode cX9_init 170 = .ok (.bipush 6, 2) := by decide +kernel
theorem dX9_init_172 : decode cX9_init 172 = .ok (.newarray .int, 2) := by decide +kernel
theorem dX9_init_174 : decode cX9_init 174 = .ok (.putfield 70, 3) := by decide +kernel
theorem dX9_init_177 : decode cX9_init 177 = .ok (.aload_n 0, 1) := by decide +kernel
theorem dX9_init_178 : decode cX9_init 178 = .ok (.getfield 25, 3) := by decide +kernel
theorem dX9_init_181 : decode cX9_init 181 = .ok (.iconst 1, 1) := by decide +kernel
theorem dX9_init_182 : decode cX9_init 182 = .ok (.bipush 20, 2) := by decide +kernel
theorem dX9_init_184 : decode cX9_init 184 = .ok (.iastore, 1) := by decide +kernel
theorem dX9_init_185 : decode cX9_init 185 = .ok (.aload_n 0, 1) := by decide +kernel
theorem dX9_init_186 : decode cX9_init 186 = .ok (.getfield 25, 3) := by decide +kernel
theorem dX9_init_189 : decode cX9_init 189 = .ok (.iconst 2, 1) := by decide +kernel
theorem dX9_init_190 : decode cX9_init 190 = .ok (.iconst 4, 1) := by decide +kernel
theorem dX9_init_191 : decode cX9_init 191 = .ok (.iastore, 1) := by decide +kernel
theorem dX9_init_192 : decode cX9_init 192 = .ok (.aload_n 0, 1) := by decide +kernel
theorem dX9_init_193 : decode cX9_init 193 = .ok (.getfield 25, 3) := by decide +kernel
theorem dX9_init_196 : decode cX9_init 196 = .ok (.iconst 3, 1) := by decide +kernel
theorem dX9_init_197 : decode cX9_init 197 = .ok (.bipush 30, 2) := by decide +kernel
theorem dX9_init_199 : decode cX9_init 199 = .ok (.iastore, 1) := by decide +kernel
theorem dX9_init_200 : decode cX9_init 200 = .ok (.return_, 1) := by decide +kernel
theorem dX9_in_0 : decode cX9_in 0 = .ok (.iload_n 0, 1) := by decide +kernel
theorem dX9_in_1 : decode cX9_in 1 = .ok (.iload_n 1, 1) := by decide +kernel
theorem dX9_in_2 : decode cX9_in 2 = .ok (.if_icmp .lt 12, 3) := by decide +kernel
theorem dX9_in_5 : decode cX9_in 5 = .ok (.iload_n 0, 1) := by decide +kernel
theorem dX9_in_6 : decode cX9_in 6 = .ok (.iload_n 2, 1) := by decide +kernel
theorem dX9_in_7 : decode cX9_in 7 = .ok (.if_icmp .gt 7, 3) := by decide +kernel
theorem dX9_in_10 : decode cX9_in 10 = .ok (.iconst 1, 1) := by decide +kernel
theorem dX9_in_11 : decode cX9_in 11 = .ok (.goto 4, 3) := by decide +kernel
theorem dX9_in_14 : decode cX9_in 14 = .ok (.iconst 0, 1) := by decide +kernel
theorem dX9_in_15 : decode cX9_in 15 = .ok (.ireturn, 1) := by decide +kernel
theorem dX9_isCopy_0 : decode cX9_isCopy 0 = .ok (.iload_n 1, 1) := by decide +kernel
theorem dX9_isCopy_1 : decode cX9_isCopy 1 = .ok (.iconst 0, 1) := by decide +kernel
theorem dX9_isCopy_2 : decode cX9_isCopy 2 = .ok (.aload_n 0, 1) := by decide +kernel
theorem dX9_isCopy_3 : decode cX9_isCopy 3 = .ok (.getfield 73, 3) := by decide +kernel
theorem dX9_isCopy_6 : decode cX9_isCopy 6 = .ok (.iconst 1, 1) := by decide +kernel
theorem dX9_isCopy_7 : decode cX9_isCopy 7 = .ok (.isub, 1) := by decide +kernel
theorem dX9_isCopy_8 : decode cX9_isCopy 8 = .ok (.invokestatic 77, 3) := by decide +kernel
theorem dX9_isCopy_11 : decode cX9_isCopy 11 = .ok (.ireturn, 1) := by decide +kernel
theorem dX9_copy_0 : decode cX9_copy 0 = .ok (.aload_n 0, 1) := by decide +kernel
theorem dX9_copy_1 : decode cX9_copy 1 = .ok (.getfield 73, 3) := by decide +kernel
theorem dX9_copy_4 : decode cX9_copy 4 = .ok (.bipush 6, 2) := by decide +kernel
theorem dX9_copy_6 : decode cX9_copy 6 = .ok (.if_icmp .ne 6, 3) := by decide +kernel
theorem dX9_copy_9 : decode cX9_copy 9 = .ok (.bipush (-3), 2) := by decide +kernel
theorem dX9_copy_11 : decode cX9_copy 11 = .ok (.ireturn, 1) := by decide +kernel
theorem dX9_copy_12 : decode cX9_copy 12 = .ok (.aload_n 0, 1) := by decide +kernel
theorem dX9_copy_13 : decode cX9_copy 13 = .ok (.dup, 1) := by decide +kernel
theorem dX9_copy_14 : decode cX9_copy 14 = .ok (.getfield 73, 3) := by decide +kernel
theorem dX9_copy_17 : decode cX9_copy 17 = .ok (.iconst 1, 1) := by decide +kernel
theorem dX9_copy_18 : decode cX9_copy 18 = .ok (.iadd, 1) := by decide +kernel
theorem dX9_copy_19 : decode cX9_copy 19 = .ok (.putfield 73, 3) := by decide +kernel
theorem dX9_copy_22 : decode cX9_copy 22 = .ok (.aload_n 0, 1) := by decide +kernel
theorem dX9_copy_23 : decode cX9_copy 23 = .ok (.getfield 73, 3) := by decide +kernel
theorem dX9_copy_26 : decode cX9_copy 26 = .ok (.iconst 1, 1) := by decide +kernel
theorem dX9_copy_27 : decode cX9_copy 27 = .ok (.isub, 1) := by decide +kernel
theorem dX9_copy_28 : decode cX9_copy 28 = .ok (.ireturn, 1) := by decide +kernel
theorem dX9_lays_0 : decode cX9_lays 0 = .ok (.aload_n 0, 1) := by decide +kernel
theorem dX9_lays_1 : decode cX9_lays 1 = .ok (.getfield 13, 3) := by decide +kernel
theorem dX9_lays_4 : decode cX9_lays 4 = .ok (.bipush 40, 2) := by decide +kernel
theorem dX9_lays_6 : decode cX9_lays 6 = .ok (.iload_n 1, 1) := by decide +kernel
theorem dX9_lays_7 : decode cX9_lays 7 = .ok (.imul, 1) := by decide +kernel
theorem dX9_lays_8 : decode cX9_lays 8 = .ok (.aload_n 0, 1) := by decide +kernel
theorem dX9_lays_9 : decode cX9_lays 9 = .ok (.getfield 7, 3) := by decide +kernel
theorem dX9_lays_12 : decode cX9_lays 12 = .ok (.iload_n 1, 1) := by decide +kernel
theorem dX9_lays_13 : decode cX9_lays 13 = .ok (.iaload, 1) := by decide +kernel
theorem dX9_lays_14 : decode cX9_lays 14 = .ok (.iadd, 1) := by decide +kernel
theorem dX9_lays_15 : decode cX9_lays 15 = .ok (.iload_n 2, 1) := by decide +kernel
theorem dX9_lays_16 : decode cX9_lays 16 = .ok (.iastore, 1) := by decide +kernel
theorem dX9_lays_17 : decode cX9_lays 17 = .ok (.aload_n 0, 1) := by decide +kernel
theorem dX9_lays_18 : decode cX9_lays 18 = .ok (.getfield 16, 3) := by decide +kernel
theorem dX9_lays_21 : decode cX9_lays 21 = .ok (.bipush 40, 2) := by decide +kernel
theorem dX9_lays_23 : decode cX9_lays 23 = .ok (.iload_n 1, 1) := by decide +kernel
theorem dX9_lays_24 : decode cX9_lays 24 = .ok (.imul, 1) := by decide +kernel
theorem dX9_lays_25 : decode cX9_lays 25 = .ok (.aload_n 0, 1) := by decide +kernel
theorem dX9_lays_26 : decode cX9_lays 26 = .ok (.getfield 7, 3) := by decide +kernel
theorem dX9_lays_29 : decode cX9_lays 29 = .ok (.iload_n 1, 1) := by decide +kernel
theorem dX9_lays_30 : decode cX9_lays 30 = .ok (.iaload, 1) := by decide +kernel
theorem dX9_lays_31 : decode cX9_lays 31 = .ok (.iadd, 1) := by decide +kernel
theorem dX9_lays_32 : decode cX9_lays 32 = .ok (.iload_n 3, 1) := by decide +kernel
theorem dX9_lays_33 : decode cX9_lays 33 = .ok (.iastore, 1) := by decide +kernel
theorem dX9_lays_34 : decode cX9_lays 34 = .ok (.aload_n 0, 1) := by decide +kernel
theorem dX9_lays_35 : decode cX9_lays 35 = .ok (.getfield 19, 3) := by decide +kernel
theorem dX9_lays_38 : decode cX9_lays 38 = .ok (.bipush 40, 2) := by decide +kernel
theorem dX9_lays_40 : decode cX9_lays 40 = .ok (.iload_n 1, 1) := by decide +kernel
theorem dX9_lays_41 : decode cX9_lays 41 = .ok (.imul, 1) := by decide +kernel
theorem dX9_lays_42 : decode cX9_lays 42 = .ok (.aload_n 0, 1) := by decide +kernel
theorem dX9_lays_43 : decode cX9_lays 43 = .ok (.getfield 7, 3) := by decide +kernel
theorem dX9_lays_46 : decode cX9_lays 46 = .ok (.iload_n 1, 1) := by decide +kernel
theorem dX9_lays_47 : decode cX9_lays 47 = .ok (.iaload, 1) := by decide +kernel
theorem dX9_lays_48 : decode cX9_lays 48 = .ok (.iadd, 1) := by decide +kernel
theorem dX9_lays_49 : decode cX9_lays 49 = .ok (.iload 4, 2) := by decide +kernel
theorem dX9_lays_51 : decode cX9_lays 51 = .ok (.iastore, 1) := by decide +kernel
theorem dX9_lays_52 : decode cX9_lays 52 = .ok (.aload_n 0, 1) := by decide +kernel
theorem dX9_lays_53 : decode cX9_lays 53 = .ok (.getfield 7, 3) := by decide +kernel
theorem dX9_lays_56 : decode cX9_lays 56 = .ok (.iload_n 1, 1) := by decide +kernel
theorem dX9_lays_57 : decode cX9_lays 57 = .ok (.dup2, 1) := by decide +kernel
theorem dX9_lays_58 : decode cX9_lays 58 = .ok (.iaload, 1) := by decide +kernel
theorem dX9_lays_59 : decode cX9_lays 59 = .ok (.iconst 1, 1) := by decide +kernel
theorem dX9_lays_60 : decode cX9_lays 60 = .ok (.iadd, 1) := by decide +kernel
theorem dX9_lays_61 : decode cX9_lays 61 = .ok (.iastore, 1) := by decide +kernel
theorem dX9_lays_62 : decode cX9_lays 62 = .ok (.return_, 1) := by decide +kernel
theorem dX9_frame_0 : decode cX9_frame 0 = .ok (.aload_n 0, 1) := by decide +kernel
theorem dX9_frame_1 : decode cX9_frame 1 = .ok (.iload_n 1, 1) := by decide +kernel
theorem dX9_frame_2 : decode cX9_frame 2 = .ok (.invokevirtual 81, 3) := by decide +kernel
theorem dX9_frame_5 : decode cX9_frame 5 = .ok (.ifCond .eq 33, 3) := by decide +kernel
theorem dX9_frame_8 : decode cX9_frame 8 = .ok (.iload_n 2, 1) := by decide +kernel
theorem dX9_frame_9 : decode cX9_frame 9 = .ok (.iconst 0, 1) := by decide +kernel
theorem dX9_frame_10 : decode cX9_frame 10 = .ok (.bipush 63, 2) := by decide +kernel
theorem dX9_frame_12 : decode cX9_frame 12 = .ok (.invokestatic 77, 3) := by decide +kernel
theorem dX9_frame_15 : decode cX9_frame 15 = .ok (.ifCond .eq 23, 3) := by decide +kernel
theorem dX9_frame_18 : decode cX9_frame 18 = .ok (.iload_n 3, 1) := by decide +kernel
theorem dX9_frame_19 : decode cX9_frame 19 = .ok (.iconst 0, 1) := by decide +kernel
theorem dX9_frame_20 : decode cX9_frame 20 = .ok (.bipush 9, 2) := by decide +kernel
theorem dX9_frame_22 : decode cX9_frame 22 = .ok (.invokestatic 77, 3) := by decide +kernel
theorem dX9_frame_25 : decode cX9_frame 25 = .ok (.ifCond .eq 13, 3) := by decide +kernel
theorem dX9_frame_28 : decode cX9_frame 28 = .ok (.iload 4, 2) := by decide +kernel
theorem dX9_frame_30 : decode cX9_frame 30 = .ok (.iconst 0, 1) := by decide +kernel
theorem dX9_frame_31 : decode cX9_frame 31 = .ok (.iconst 1, 1) := by decide +kernel
theorem dX9_frame_32 : decode cX9_frame 32 = .ok (.invokestatic 77, 3) := by decide +kernel
theorem dX9_frame_35 : decode cX9_frame 35 = .ok (.ifCond .ne 5, 3) := by decide +kernel
theorem dX9_frame_38 : decode cX9_frame 38 = .ok (.iconst (-1), 1) := by decide +kernel
theorem dX9_frame_39 : decode cX9_frame 39 = .ok (.ireturn, 1) := by decide +kernel
theorem dX9_frame_40 : decode cX9_frame 40 = .ok (.aload_n 0, 1) := by decide +kernel
theorem dX9_frame_41 : decode cX9_frame 41 = .ok (.getfield 7, 3) := by decide +kernel
theorem dX9_frame_44 : decode cX9_frame 44 = .ok (.iload_n 1, 1) := by decide +kernel
theorem dX9_frame_45 : decode cX9_frame 45 = .ok (.iaload, 1) := by decide +kernel
theorem dX9_frame_46 : decode cX9_frame 46 = .ok (.bipush 40, 2) := by decide +kernel
theorem dX9_frame_48 : decode cX9_frame 48 = .ok (.if_icmp .ne 6, 3) := by decide +kernel
theorem dX9_frame_51 : decode cX9_frame 51 = .ok (.bipush (-3), 2) := by decide +kernel
theorem dX9_frame_53 : decode cX9_frame 53 = .ok (.ireturn, 1) := by decide +kernel
theorem dX9_frame_54 : decode cX9_frame 54 = .ok (.aload_n 0, 1) := by decide +kernel
theorem dX9_frame_55 : decode cX9_frame 55 = .ok (.iload_n 1, 1) := by decide +kernel
theorem dX9_frame_56 : decode cX9_frame 56 = .ok (.iload_n 2, 1) := by decide +kernel
theorem dX9_frame_57 : decode cX9_frame 57 = .ok (.iload_n 3, 1) := by decide +kernel
theorem dX9_frame_58 : decode cX9_frame 58 = .ok (.iload 4, 2) := by decide +kernel
theorem dX9_frame_60 : decode cX9_frame 60 = .ok (.invokevirtual 85, 3) := by decide +kernel
theorem dX9_frame_63 : decode cX9_frame 63 = .ok (.aload_n 0, 1) := by decide +kernel
theorem dX9_frame_64 : decode cX9_frame 64 = .ok (.getfield 7, 3) := by decide +kernel
theorem dX9_frame_67 : decode cX9_frame 67 = .ok (.iload_n 1, 1) := by decide +kernel
theorem dX9_frame_68 : decode cX9_frame 68 = .ok (.iaload, 1) := by decide +kernel
theorem dX9_frame_69 : decode cX9_frame 69 = .ok (.ireturn, 1) := by decide +kernel
theorem dX9_frames_0 : decode cX9_frames 0 = .ok (.aload_n 0, 1) := by decide +kernel
theorem dX9_frames_1 : decode cX9_frames 1 = .ok (.iload_n 1, 1) := by decide +kernel
theorem dX9_frames_2 : decode cX9_frames 2 = .ok (.invokevirtual 81, 3) := by decide +kernel
theorem dX9_frames_5 : decode cX9_frames 5 = .ok (.ifCond .eq 12, 3) := by decide +kernel
theorem dX9_frames_8 : decode cX9_frames 8 = .ok (.iload_n 2, 1) := by decide +kernel
theorem dX9_frames_9 : decode cX9_frames 9 = .ok (.iconst 1, 1) := by decide +kernel
theorem dX9_frames_10 : decode cX9_frames 10 = .ok (.iconst 4, 1) := by decide +kernel
theorem dX9_frames_11 : decode cX9_frames 11 = .ok (.invokestatic 77, 3) := by decide +kernel
theorem dX9_frames_14 : decode cX9_frames 14 = .ok (.ifCond .ne 5, 3) := by decide +kernel
theorem dX9_frames_17 : decode cX9_frames 17 = .ok (.iconst (-1), 1) := by decide +kernel
theorem dX9_frames_18 : decode cX9_frames 18 = .ok (.ireturn, 1) := by decide +kernel
theorem dX9_frames_19 : decode cX9_frames 19 = .ok (.iload_n 2, 1) := by decide +kernel
theorem dX9_frames_20 : decode cX9_frames 20 = .ok (.iconst 1, 1) := by decide +kernel
theorem dX9_frames_21 : decode cX9_frames 21 = .ok (.isub, 1) := by decide +kernel
theorem dX9_frames_22 : decode cX9_frames 22 = .ok (.istore 5, 2) := by decide +kernel
theorem dX9_frames_24 : decode cX9_frames 24 = .ok (.iload 5, 2) := by decide +kernel
theorem dX9_frames_26 : decode cX9_frames 26 = .ok (.ifCond .lt 46, 3) := by decide +kernel
theorem dX9_frames_29 : decode cX9_frames 29 = .ok (.lload_n 3, 1) := by decide +kernel
theorem dX9_frames_30 : decode cX9_frames 30 = .ok (.bipush 16, 2) := by decide +kernel
theorem dX9_frames_32 : decode cX9_frames 32 = .ok (.iload 5, 2) := by decide +kernel
theorem dX9_frames_34 : decode cX9_frames 34 = .ok (.imul, 1) := by decide +kernel
theorem dX9_frames_35 : decode cX9_frames 35 = .ok (.lshr, 1) := by decide +kernel
theorem dX9_frames_36 : decode cX9_frames 36 = .ok (.ldc2_w 89, 3) := by decide +kernel
theorem dX9_frames_39 : decode cX9_frames 39 = .ok (.land, 1) := by decide +kernel
theorem dX9_frames_40 : decode cX9_frames 40 = .ok (.l2i, 1) := by decide +kernel
theorem dX9_frames_41 : decode cX9_frames 41 = .ok (.istore 6, 2) := by decide +kernel
theorem dX9_frames_43 : decode cX9_frames 43 = .ok (.iload 6, 2) := by decide +kernel
theorem dX9_frames_45 : decode cX9_frames 45 = .ok (.bipush 6, 2) := by decide +kernel
theorem dX9_frames_47 : decode cX9_frames 47 = .ok (.ishr, 1) := by decide +kernel
theorem dX9_frames_48 : decode cX9_frames 48 = .ok (.bipush 15, 2) := by decide +kernel
theorem dX9_frames_50 : decode cX9_frames 50 = .ok (.iand, 1) := by decide +kernel
theorem dX9_frames_51 : decode cX9_frames 51 = .ok (.bipush 9, 2) := by decide +kernel
theorem dX9_frames_53 : decode cX9_frames 53 = .ok (.if_icmp .gt 11, 3) := by decide +kernel
theorem dX9_frames_56 : decode cX9_frames 56 = .ok (.iload 6, 2) := by decide +kernel
theorem dX9_frames_58 : decode cX9_frames 58 = .ok (.bipush 31, 2) := by decide +kernel
theorem dX9_frames_60 : decode cX9_frames 60 = .ok (.iand, 1) := by decide +kernel
theorem dX9_frames_61 : decode cX9_frames 61 = .ok (.ifCond .eq 5, 3) := by decide +kernel
theorem dX9_frames_64 : decode cX9_frames 64 = .ok (.iconst (-1), 1) := by decide +kernel
theorem dX9_frames_65 : decode cX9_frames 65 = .ok (.ireturn, 1) := by decide +kernel
theorem dX9_frames_66 : decode cX9_frames 66 = .ok (.iinc 5 (-1), 3) := by decide +kernel
theorem dX9_frames_69 : decode cX9_frames 69 = .ok (.goto (-45), 3) := by decide +kernel
theorem dX9_frames_72 : decode cX9_frames 72 = .ok (.aload_n 0, 1) := by decide +kernel
theorem dX9_frames_73 : decode cX9_frames 73 = .ok (.getfield 7, 3) := by decide +kernel
theorem dX9_frames_76 : decode cX9_frames 76 = .ok (.iload_n 1, 1) := by decide +kernel
theorem dX9_frames_77 : decode cX9_frames 77 = .ok (.iaload, 1) := by decide +kernel
theorem dX9_frames_78 : decode cX9_frames 78 = .ok (.iload_n 2, 1) := by decide +kernel
theorem dX9_frames_79 : decode cX9_frames 79 = .ok (.iadd, 1) := by decide +kernel
theorem dX9_frames_80 : decode cX9_frames 80 = .ok (.bipush 40, 2) := by decide +kernel
theorem dX9_frames_82 : decode cX9_frames 82 = .ok (.if_icmp .le 6, 3) := by decide +kernel
theorem dX9_frames_85 : decode cX9_frames 85 = .ok (.bipush (-3), 2) := by decide +kernel
theorem dX9_frames_87 : decode cX9_frames 87 = .ok (.ireturn, 1) := by decide +kernel
theorem dX9_frames_88 : decode cX9_frames 88 = .ok (.iload_n 2, 1) := by decide +kernel
theorem dX9_frames_89 : decode cX9_frames 89 = .ok (.iconst 1, 1) := by decide +kernel
theorem dX9_frames_90 : decode cX9_frames 90 = .ok (.isub, 1) := by decide +kernel
theorem dX9_frames_91 : decode cX9_frames 91 = .ok (.istore 5, 2) := by decide +kernel
theorem dX9_frames_93 : decode cX9_frames 93 = .ok (.iload 5, 2) := by decide +kernel
theorem dX9_frames_95 : decode cX9_frames 95 = .ok (.ifCond .lt 47, 3) := by decide +kernel
theorem dX9_frames_98 : decode cX9_frames 98 = .ok (.lload_n 3, 1) := by decide +kernel
theorem dX9_frames_99 : decode cX9_frames 99 = .ok (.bipush 16, 2) := by decide +kernel
theorem dX9_frames_101 : decode cX9_frames 101 = .ok (.iload 5, 2) := by decide +kernel
theorem dX9_frames_103 : decode cX9_frames 103 = .ok (.imul, 1) := by decide +kernel
theorem dX9_frames_104 : decode cX9_frames 104 = .ok (.lshr, 1) := by decide +kernel
theorem dX9_frames_105 : decode cX9_frames 105 = .ok (.ldc2_w 89, 3) := by decide +kernel
theorem dX9_frames_108 : decode cX9_frames 108 = .ok (.land, 1) := by decide +kernel
theorem dX9_frames_109 : decode cX9_frames 109 = .ok (.l2i, 1) := by decide +kernel
theorem dX9_frames_110 : decode cX9_frames 110 = .ok (.istore 6, 2) := by decide +kernel
theorem dX9_frames_112 : decode cX9_frames 112 = .ok (.aload_n 0, 1) := by decide +kernel
theorem dX9_frames_113 : decode cX9_frames 113 = .ok (.iload_n 1, 1) := by decide +kernel
theorem dX9_frames_114 : decode cX9_frames 114 = .ok (.iload 6, 2) := by decide +kernel
theorem dX9_frames_116 : decode cX9_frames 116 = .ok (.bipush 10, 2) := by decide +kernel
theorem dX9_frames_118 : decode cX9_frames 118 = .ok (.ishr, 1) := by decide +kernel
theorem dX9_frames_119 : decode cX9_frames 119 = .ok (.iload 6, 2) := by decide +kernel
theorem dX9_frames_121 : decode cX9_frames 121 = .ok (.bipush 6, 2) := by decide +kernel
theorem dX9_frames_123 : decode cX9_frames 123 = .ok (.ishr, 1) := by decide +kernel
theorem dX9_frames_124 : decode cX9_frames 124 = .ok (.bipush 15, 2) := by decide +kernel
theorem dX9_frames_126 : decode cX9_frames 126 = .ok (.iand, 1) := by decide +kernel
theorem dX9_frames_127 : decode cX9_frames 127 = .ok (.iload 6, 2) := by decide +kernel
theorem dX9_frames_129 : decode cX9_frames 129 = .ok (.iconst 5, 1) := by decide +kernel
theorem dX9_frames_130 : decode cX9_frames 130 = .ok (.ishr, 1) := by decide +kernel
theorem dX9_frames_131 : decode cX9_frames 131 = .ok (.iconst 1, 1) := by decide +kernel
theorem dX9_frames_132 : decode cX9_frames 132 = .ok (.iand, 1) := by decide +kernel
theorem dX9_frames_133 : decode cX9_frames 133 = .ok (.invokevirtual 85, 3) := by decide +kernel
theorem dX9_frames_136 : decode cX9_frames 136 = .ok (.iinc 5 (-1), 3) := by decide +kernel
theorem dX9_frames_139 : decode cX9_frames 139 = .ok (.goto (-46), 3) := by decide +kernel
theorem dX9_frames_142 : decode cX9_frames 142 = .ok (.aload_n 0, 1) := by decide +kernel
theorem dX9_frames_143 : decode cX9_frames 143 = .ok (.getfield 7, 3) := by decide +kernel
theorem dX9_frames_146 : decode cX9_frames 146 = .ok (.iload_n 1, 1) := by decide +kernel
theorem dX9_frames_147 : decode cX9_frames 147 = .ok (.iaload, 1) := by decide +kernel
theorem dX9_frames_148 : decode cX9_frames 148 = .ok (.ireturn, 1) := by decide +kernel
theorem dX9_isFrame_0 : decode cX9_isFrame 0 = .ok (.aload_n 0, 1) := by decide +kernel
theorem dX9_isFrame_1 : decode cX9_isFrame 1 = .ok (.iload_n 1, 1) := by decide +kernel
theorem dX9_isFrame_2 : decode cX9_isFrame 2 = .ok (.invokevirtual 81, 3) := by decide +kernel
theorem dX9_isFrame_5 : decode cX9_isFrame 5 = .ok (.ifCond .eq 23, 3) := by decide +kernel
theorem dX9_isFrame_8 : decode cX9_isFrame 8 = .ok (.iload_n 2, 1) := by decide +kernel
theorem dX9_isFrame_9 : decode cX9_isFrame 9 = .ok (.iconst 0, 1) := by decide +kernel
theorem dX9_isFrame_10 : decode cX9_isFrame 10 = .ok (.aload_n 0, 1) := by decide +kernel
theorem dX9_isFrame_11 : decode cX9_isFrame 11 = .ok (.getfield 7, 3) := by decide +kernel
theorem dX9_isFrame_14 : decode cX9_isFrame 14 = .ok (.iload_n 1, 1) := by decide +kernel
theorem dX9_isFrame_15 : decode cX9_isFrame 15 = .ok (.iaload, 1) := by decide +kernel
theorem dX9_isFrame_16 : decode cX9_isFrame 16 = .ok (.iconst 1, 1) := by decide +kernel
theorem dX9_isFrame_17 : decode cX9_isFrame 17 = .ok (.isub, 1) := by decide +kernel
theorem dX9_isFrame_18 : decode cX9_isFrame 18 = .ok (.invokestatic 77, 3) := by decide +kernel
theorem dX9_isFrame_21 : decode cX9_isFrame 21 = .ok (.ifCond .eq 7, 3) := by decide +kernel
theorem dX9_isFrame_24 : decode cX9_isFrame 24 = .ok (.iconst 1, 1) := by decide +kernel
theorem dX9_isFrame_25 : decode cX9_isFrame 25 = .ok (.goto 4, 3) := by decide +kernel
theorem dX9_isFrame_28 : decode cX9_isFrame 28 = .ok (.iconst 0, 1) := by decide +kernel
theorem dX9_isFrame_29 : decode cX9_isFrame 29 = .ok (.ireturn, 1) := by decide +kernel
theorem dX9_at_0 : decode cX9_at 0 = .ok (.aload_n 0, 1) := by decide +kernel
theorem dX9_at_1 : decode cX9_at 1 = .ok (.iload_n 1, 1) := by decide +kernel
theorem dX9_at_2 : decode cX9_at 2 = .ok (.iload_n 2, 1) := by decide +kernel
theorem dX9_at_3 : decode cX9_at 3 = .ok (.invokevirtual 91, 3) := by decide +kernel
theorem dX9_at_6 : decode cX9_at 6 = .ok (.ifCond .eq 12, 3) := by decide +kernel
theorem dX9_at_9 : decode cX9_at 9 = .ok (.iload_n 3, 1) := by decide +kernel
theorem dX9_at_10 : decode cX9_at 10 = .ok (.iconst 0, 1) := by decide +kernel
theorem dX9_at_11 : decode cX9_at 11 = .ok (.iconst 2, 1) := by decide +kernel
theorem dX9_at_12 : decode cX9_at 12 = .ok (.invokestatic 77, 3) := by decide +kernel
theorem dX9_at_15 : decode cX9_at 15 = .ok (.ifCond .ne 5, 3) := by decide +kernel
theorem dX9_at_18 : decode cX9_at 18 = .ok (.iconst (-1), 1) := by decide +kernel
theorem dX9_at_19 : decode cX9_at 19 = .ok (.ireturn, 1) := by decide +kernel
theorem dX9_at_20 : decode cX9_at 20 = .ok (.iload_n 3, 1) := by decide +kernel
theorem dX9_at_21 : decode cX9_at 21 = .ok (.ifCond .ne 17, 3) := by decide +kernel
theorem dX9_at_24 : decode cX9_at 24 = .ok (.aload_n 0, 1) := by decide +kernel
theorem dX9_at_25 : decode cX9_at 25 = .ok (.getfield 13, 3) := by decide +kernel
theorem dX9_at_28 : decode cX9_at 28 = .ok (.bipush 40, 2) := by decide +kernel
theorem dX9_at_30 : decode cX9_at 30 = .ok (.iload_n 1, 1) := by decide +kernel
theorem dX9_at_31 : decode cX9_at 31 = .ok (.imul, 1) := by decide +kernel
theorem dX9_at_32 : decode cX9_at 32 = .ok (.iload_n 2, 1) := by decide +kernel
theorem dX9_at_33 : decode cX9_at 33 = .ok (.iadd, 1) := by decide +kernel
theorem dX9_at_34 : decode cX9_at 34 = .ok (.iaload, 1) := by decide +kernel
theorem dX9_at_35 : decode cX9_at 35 = .ok (.goto 33, 3) := by decide +kernel
theorem dX9_at_38 : decode cX9_at 38 = .ok (.iload_n 3, 1) := by decide +kernel
theorem dX9_at_39 : decode cX9_at 39 = .ok (.iconst 1, 1) := by decide +kernel
theorem dX9_at_40 : decode cX9_at 40 = .ok (.if_icmp .ne 17, 3) := by decide +kernel
theorem dX9_at_43 : decode cX9_at 43 = .ok (.aload_n 0, 1) := by decide +kernel
theorem dX9_at_44 : decode cX9_at 44 = .ok (.getfield 16, 3) := by decide +kernel
theorem dX9_at_47 : decode cX9_at 47 = .ok (.bipush 40, 2) := by decide +kernel
theorem dX9_at_49 : decode cX9_at 49 = .ok (.iload_n 1, 1) := by decide +kernel
theorem dX9_at_50 : decode cX9_at 50 = .ok (.imul, 1) := by decide +kernel
theorem dX9_at_51 : decode cX9_at 51 = .ok (.iload_n 2, 1) := by decide +kernel
theorem dX9_at_52 : decode cX9_at 52 = .ok (.iadd, 1) := by decide +kernel
theorem dX9_at_53 : decode cX9_at 53 = .ok (.iaload, 1) := by decide +kernel
theorem dX9_at_54 : decode cX9_at 54 = .ok (.goto 14, 3) := by decide +kernel
theorem dX9_at_57 : decode cX9_at 57 = .ok (.aload_n 0, 1) := by decide +kernel
theorem dX9_at_58 : decode cX9_at 58 = .ok (.getfield 19, 3) := by decide +kernel
theorem dX9_at_61 : decode cX9_at 61 = .ok (.bipush 40, 2) := by decide +kernel
theorem dX9_at_63 : decode cX9_at 63 = .ok (.iload_n 1, 1) := by decide +kernel
theorem dX9_at_64 : decode cX9_at 64 = .ok (.imul, 1) := by decide +kernel
theorem dX9_at_65 : decode cX9_at 65 = .ok (.iload_n 2, 1) := by decide +kernel
theorem dX9_at_66 : decode cX9_at 66 = .ok (.iadd, 1) := by decide +kernel
theorem dX9_at_67 : decode cX9_at 67 = .ok (.iaload, 1) := by decide +kernel
theorem dX9_at_68 : decode cX9_at 68 = .ok (.ireturn, 1) := by decide +kernel
theorem dX9_keeps_0 : decode cX9_keeps 0 = .ok (.aload_n 0, 1) := by decide +kernel
theorem dX9_keeps_1 : decode cX9_keeps 1 = .ok (.getfield 95, 3) := by decide +kernel
theorem dX9_keeps_4 : decode cX9_keeps 4 = .ok (.bipush 30, 2) := by decide +kernel
theorem dX9_keeps_6 : decode cX9_keeps 6 = .ok (.if_icmp .ne 55, 3) := by decide +kernel
theorem dX9_keeps_9 : decode cX9_keeps 9 = .ok (.iconst 1, 1) := by decide +kernel
theorem dX9_keeps_10 : decode cX9_keeps 10 = .ok (.istore_n 3, 1) := by decide +kernel
theorem dX9_keeps_11 : decode cX9_keeps 11 = .ok (.iload_n 3, 1) := by decide +kernel
theorem dX9_keeps_12 : decode cX9_keeps 12 = .ok (.bipush 30, 2) := by decide +kernel
theorem dX9_keeps_14 : decode cX9_keeps 14 = .ok (.if_icmp .ge 37, 3) := by decide +kernel
theorem dX9_keeps_17 : decode cX9_keeps 17 = .ok (.aload_n 0, 1) := by decide +kernel
theorem dX9_keeps_18 : decode cX9_keeps 18 = .ok (.getfield 49, 3) := by decide +kernel
theorem dX9_keeps_21 : decode cX9_keeps 21 = .ok (.iload_n 3, 1) := by decide +kernel
theorem dX9_keeps_22 : decode cX9_keeps 22 = .ok (.iconst 1, 1) := by decide +kernel
theorem dX9_keeps_23 : decode cX9_keeps 23 = .ok (.isub, 1) := by decide +kernel
theorem dX9_keeps_24 : decode cX9_keeps 24 = .ok (.aload_n 0, 1) := by decide +kernel
theorem dX9_keeps_25 : decode cX9_keeps 25 = .ok (.getfield 49, 3) := by decide +kernel
theorem dX9_keeps_28 : decode cX9_keeps 28 = .ok (.iload_n 3, 1) := by decide +kernel
theorem dX9_keeps_29 : decode cX9_keeps 29 = .ok (.iaload, 1) := by decide +kernel
theorem dX9_keeps_30 : decode cX9_keeps 30 = .ok (.iastore, 1) := by decide +kernel
theorem dX9_keeps_31 : decode cX9_keeps 31 = .ok (.aload_n 0, 1) := by decide +kernel
theorem dX9_keeps_32 : decode cX9_keeps 32 = .ok (.getfield 52, 3) := by decide +kernel
theorem dX9_keeps_35 : decode cX9_keeps 35 = .ok (.iload_n 3, 1) := by decide +kernel
theorem dX9_keeps_36 : decode cX9_keeps 36 = .ok (.iconst 1, 1) := by decide +kernel
theorem dX9_keeps_37 : decode cX9_keeps 37 = .ok (.isub, 1) := by decide +kernel
theorem dX9_keeps_38 : decode cX9_keeps 38 = .ok (.aload_n 0, 1) := by decide +kernel
theorem dX9_keeps_39 : decode cX9_keeps 39 = .ok (.getfield 52, 3) := by decide +kernel
theorem dX9_keeps_42 : decode cX9_keeps 42 = .ok (.iload_n 3, 1) := by decide +kernel
theorem dX9_keeps_43 : decode cX9_keeps 43 = .ok (.iaload, 1) := by decide +kernel
theorem dX9_keeps_44 : decode cX9_keeps 44 = .ok (.iastore, 1) := by decide +kernel
theorem dX9_keeps_45 : decode cX9_keeps 45 = .ok (.iinc 3 1, 3) := by decide +kernel
theorem dX9_keeps_48 : decode cX9_keeps 48 = .ok (.goto (-37), 3) := by decide +kernel
theorem dX9_keeps_51 : decode cX9_keeps 51 = .ok (.aload_n 0, 1) := by decide +kernel
theorem dX9_keeps_52 : decode cX9_keeps 52 = .ok (.dup, 1) := by decide +kernel
theorem dX9_keeps_53 : decode cX9_keeps 53 = .ok (.getfield 95, 3) := by decide +kernel
theorem dX9_keeps_56 : decode cX9_keeps 56 = .ok (.iconst 1, 1) := by decide +kernel
theorem dX9_keeps_57 : decode cX9_keeps 57 = .ok (.isub, 1) := by decide +kernel
theorem dX9_keeps_58 : decode cX9_keeps 58 = .ok (.putfield 95, 3) := by decide +kernel
theorem dX9_keeps_61 : decode cX9_keeps 61 = .ok (.aload_n 0, 1) := by decide +kernel
theorem dX9_keeps_62 : decode cX9_keeps 62 = .ok (.getfield 49, 3) := by decide +kernel
theorem dX9_keeps_65 : decode cX9_keeps 65 = .ok (.aload_n 0, 1) := by decide +kernel
theorem dX9_keeps_66 : decode cX9_keeps 66 = .ok (.getfield 95, 3) := by decide +kernel
theorem dX9_keeps_69 : decode cX9_keeps 69 = .ok (.iload_n 1, 1) := by decide +kernel
theorem dX9_keeps_70 : decode cX9_keeps 70 = .ok (.iastore, 1) := by decide +kernel
theorem dX9_keeps_71 : decode cX9_keeps 71 = .ok (.aload_n 0, 1) := by decide +kernel
theorem dX9_keeps_72 : decode cX9_keeps 72 = .ok (.getfield 52, 3) := by decide +kernel
theorem dX9_keeps_75 : decode cX9_keeps 75 = .ok (.aload_n 0, 1) := by decide +kernel
theorem dX9_keeps_76 : decode cX9_keeps 76 = .ok (.getfield 95, 3) := by decide +kernel
theorem dX9_keeps_79 : decode cX9_keeps 79 = .ok (.aload_n 0, 1) := by decide +kernel
theorem dX9_keeps_80 : decode cX9_keeps 80 = .ok (.getfield 16, 3) := by decide +kernel
theorem dX9_keeps_83 : decode cX9_keeps 83 = .ok (.iload_n 1, 1) := by decide +kernel
theorem dX9_keeps_84 : decode cX9_keeps 84 = .ok (.iaload, 1) := by decide +kernel
theorem dX9_keeps_85 : decode cX9_keeps 85 = .ok (.iastore, 1) := by decide +kernel
theorem dX9_keeps_86 : decode cX9_keeps 86 = .ok (.aload_n 0, 1) := by decide +kernel
theorem dX9_keeps_87 : decode cX9_keeps 87 = .ok (.dup, 1) := by decide +kernel
theorem dX9_keeps_88 : decode cX9_keeps 88 = .ok (.getfield 95, 3) := by decide +kernel
theorem dX9_keeps_91 : decode cX9_keeps 91 = .ok (.iconst 1, 1) := by decide +kernel
theorem dX9_keeps_92 : decode cX9_keeps 92 = .ok (.iadd, 1) := by decide +kernel
theorem dX9_keeps_93 : decode cX9_keeps 93 = .ok (.putfield 95, 3) := by decide +kernel
theorem dX9_keeps_96 : decode cX9_keeps 96 = .ok (.aload_n 0, 1) := by decide +kernel
theorem dX9_keeps_97 : decode cX9_keeps 97 = .ok (.getfield 16, 3) := by decide +kernel
theorem dX9_keeps_100 : decode cX9_keeps 100 = .ok (.iload_n 1, 1) := by decide +kernel
theorem dX9_keeps_101 : decode cX9_keeps 101 = .ok (.iload_n 2, 1) := by decide +kernel
theorem dX9_keeps_102 : decode cX9_keeps 102 = .ok (.iastore, 1) := by decide +kernel
theorem dX9_keeps_103 : decode cX9_keeps 103 = .ok (.return_, 1) := by decide +kernel
theorem dX9_wear_0 : decode cX9_wear 0 = .ok (.aload_n 0, 1) := by decide +kernel
theorem dX9_wear_1 : decode cX9_wear 1 = .ok (.iload_n 1, 1) := by decide +kernel
theorem dX9_wear_2 : decode cX9_wear 2 = .ok (.iload_n 2, 1) := by decide +kernel
theorem dX9_wear_3 : decode cX9_wear 3 = .ok (.invokevirtual 91, 3) := by decide +kernel
theorem dX9_wear_6 : decode cX9_wear 6 = .ok (.ifCond .eq 13, 3) := by decide +kernel
theorem dX9_wear_9 : decode cX9_wear 9 = .ok (.iload_n 3, 1) := by decide +kernel
theorem dX9_wear_10 : decode cX9_wear 10 = .ok (.iconst 0, 1) := by decide +kernel
theorem dX9_wear_11 : decode cX9_wear 11 = .ok (.bipush 9, 2) := by decide +kernel
theorem dX9_wear_13 : decode cX9_wear 13 = .ok (.invokestatic 77, 3) := by decide +kernel
theorem dX9_wear_16 : decode cX9_wear 16 = .ok (.ifCond .ne 5, 3) := by decide +kernel
theorem dX9_wear_19 : decode cX9_wear 19 = .ok (.iconst (-1), 1) := by decide +kernel
theorem dX9_wear_20 : decode cX9_wear 20 = .ok (.ireturn, 1) := by decide +kernel
theorem dX9_wear_21 : decode cX9_wear 21 = .ok (.aload_n 0, 1) := by decide +kernel
theorem dX9_wear_22 : decode cX9_wear 22 = .ok (.getfield 16, 3) := by decide +kernel
theorem dX9_wear_25 : decode cX9_wear 25 = .ok (.bipush 40, 2) := by decide +kernel
theorem dX9_wear_27 : decode cX9_wear 27 = .ok (.iload_n 1, 1) := by decide +kernel
theorem dX9_wear_28 : decode cX9_wear 28 = .ok (.imul, 1) := by decide +kernel
theorem dX9_wear_29 : decode cX9_wear 29 = .ok (.iload_n 2, 1) := by decide +kernel
theorem dX9_wear_30 : decode cX9_wear 30 = .ok (.iadd, 1) := by decide +kernel
theorem dX9_wear_31 : decode cX9_wear 31 = .ok (.iaload, 1) := by decide +kernel
theorem dX9_wear_32 : decode cX9_wear 32 = .ok (.istore 4, 2) := by decide +kernel
theorem dX9_wear_34 : decode cX9_wear 34 = .ok (.aload_n 0, 1) := by decide +kernel
theorem dX9_wear_35 : decode cX9_wear 35 = .ok (.bipush 40, 2) := by decide +kernel
theorem dX9_wear_37 : decode cX9_wear 37 = .ok (.iload_n 1, 1) := by decide +kernel
theorem dX9_wear_38 : decode cX9_wear 38 = .ok (.imul, 1) := by decide +kernel
theorem dX9_wear_39 : decode cX9_wear 39 = .ok (.iload_n 2, 1) := by decide +kernel
theorem dX9_wear_40 : decode cX9_wear 40 = .ok (.iadd, 1) := by decide +kernel
theorem dX9_wear_41 : decode cX9_wear 41 = .ok (.iload_n 3, 1) := by decide +kernel
theorem dX9_wear_42 : decode cX9_wear 42 = .ok (.invokevirtual 98, 3) := by decide +kernel
theorem dX9_wear_45 : decode cX9_wear 45 = .ok (.iload 4, 2) := by decide +kernel
theorem dX9_wear_47 : decode cX9_wear 47 = .ok (.ireturn, 1) := by decide +kernel
theorem dX9_place_0 : decode cX9_place 0 = .ok (.iload_n 1, 1) := by decide +kernel
theorem dX9_place_1 : decode cX9_place 1 = .ok (.iconst 0, 1) := by decide +kernel
theorem dX9_place_2 : decode cX9_place 2 = .ok (.bipush 63, 2) := by decide +kernel
theorem dX9_place_4 : decode cX9_place 4 = .ok (.invokestatic 77, 3) := by decide +kernel
theorem dX9_place_7 : decode cX9_place 7 = .ok (.ifCond .eq 12, 3) := by decide +kernel
theorem dX9_place_10 : decode cX9_place 10 = .ok (.iload_n 2, 1) := by decide +kernel
theorem dX9_place_11 : decode cX9_place 11 = .ok (.iconst 0, 1) := by decide +kernel
theorem dX9_place_12 : decode cX9_place 12 = .ok (.iconst 5, 1) := by decide +kernel
theorem dX9_place_13 : decode cX9_place 13 = .ok (.invokestatic 77, 3) := by decide +kernel
theorem dX9_place_16 : decode cX9_place 16 = .ok (.ifCond .ne 5, 3) := by decide +kernel
theorem dX9_place_19 : decode cX9_place 19 = .ok (.iconst (-1), 1) := by decide +kernel
theorem dX9_place_20 : decode cX9_place 20 = .ok (.ireturn, 1) := by decide +kernel
theorem dX9_place_21 : decode cX9_place 21 = .ok (.aload_n 0, 1) := by decide +kernel
theorem dX9_place_22 : decode cX9_place 22 = .ok (.getfield 7, 3) := by decide +kernel
theorem dX9_place_25 : decode cX9_place 25 = .ok (.bipush 6, 2) := by decide +kernel
theorem dX9_place_27 : decode cX9_place 27 = .ok (.iaload, 1) := by decide +kernel
theorem dX9_place_28 : decode cX9_place 28 = .ok (.bipush 40, 2) := by decide +kernel
theorem dX9_place_30 : decode cX9_place 30 = .ok (.if_icmp .ne 6, 3) := by decide +kernel
theorem dX9_place_33 : decode cX9_place 33 = .ok (.bipush (-3), 2) := by decide +kernel
theorem dX9_place_35 : decode cX9_place 35 = .ok (.ireturn, 1) := by decide +kernel
theorem dX9_place_36 : decode cX9_place 36 = .ok (.aload_n 0, 1) := by decide +kernel
theorem dX9_place_37 : decode cX9_place 37 = .ok (.getfield 13, 3) := by decide +kernel
theorem dX9_place_40 : decode cX9_place 40 = .ok (.sipush 240, 3) := by decide +kernel
theorem dX9_place_43 : decode cX9_place 43 = .ok (.aload_n 0, 1) := by decide +kernel
theorem dX9_place_44 : decode cX9_place 44 = .ok (.getfield 7, 3) := by decide +kernel
theorem dX9_place_47 : decode cX9_place 47 = .ok (.bipush 6, 2) := by decide +kernel
theorem dX9_place_49 : decode cX9_place 49 = .ok (.iaload, 1) := by decide +kernel
theorem dX9_place_50 : decode cX9_place 50 = .ok (.iadd, 1) := by decide +kernel
theorem dX9_place_51 : decode cX9_place 51 = .ok (.iload_n 1, 1) := by decide +kernel
theorem dX9_place_52 : decode cX9_place 52 = .ok (.iastore, 1) := by decide +kernel
theorem dX9_place_53 : decode cX9_place 53 = .ok (.aload_n 0, 1) := by decide +kernel
theorem dX9_place_54 : decode cX9_place 54 = .ok (.getfield 22, 3) := by decide +kernel
theorem dX9_place_57 : decode cX9_place 57 = .ok (.aload_n 0, 1) := by decide +kernel
theorem dX9_place_58 : decode cX9_place 58 = .ok (.getfield 7, 3) := by decide +kernel
theorem dX9_place_61 : decode cX9_place 61 = .ok (.bipush 6, 2) := by decide +kernel
theorem dX9_place_63 : decode cX9_place 63 = .ok (.iaload, 1) := by decide +kernel
theorem dX9_place_64 : decode cX9_place 64 = .ok (.iload_n 2, 1) := by decide +kernel
theorem dX9_place_65 : decode cX9_place 65 = .ok (.iastore, 1) := by decide +kernel
theorem dX9_place_66 : decode cX9_place 66 = .ok (.aload_n 0, 1) := by decide +kernel
theorem dX9_place_67 : decode cX9_place 67 = .ok (.getfield 7, 3) := by decide +kernel
theorem dX9_place_70 : decode cX9_place 70 = .ok (.bipush 6, 2) := by decide +kernel
theorem dX9_place_72 : decode cX9_place 72 = .ok (.dup2, 1) := by decide +kernel
theorem dX9_place_73 : decode cX9_place 73 = .ok (.iaload, 1) := by decide +kernel
theorem dX9_place_74 : decode cX9_place 74 = .ok (.iconst 1, 1) := by decide +kernel
theorem dX9_place_75 : decode cX9_place 75 = .ok (.iadd, 1) := by decide +kernel
theorem dX9_place_76 : decode cX9_place 76 = .ok (.iastore, 1) := by decide +kernel
theorem dX9_place_77 : decode cX9_place 77 = .ok (.aload_n 0, 1) := by decide +kernel
theorem dX9_place_78 : decode cX9_place 78 = .ok (.getfield 7, 3) := by decide +kernel
theorem dX9_place_81 : decode cX9_place 81 = .ok (.bipush 6, 2) := by decide +kernel
theorem dX9_place_83 : decode cX9_place 83 = .ok (.iaload, 1) := by decide +kernel
theorem dX9_place_84 : decode cX9_place 84 = .ok (.ireturn, 1) := by decide +kernel
theorem dX9_noScript_0 : decode cX9_noScript 0 = .ok (.aload_n 0, 1) := by decide +kernel
theorem dX9_noScript_1 : decode cX9_noScript 1 = .ok (.getfield 7, 3) := by decide +kernel
theorem dX9_noScript_4 : decode cX9_noScript 4 = .ok (.bipush 6, 2) := by decide +kernel
theorem dX9_noScript_6 : decode cX9_noScript 6 = .ok (.iaload, 1) := by decide +kernel
theorem dX9_noScript_7 : decode cX9_noScript 7 = .ok (.istore_n 1, 1) := by decide +kernel
theorem dX9_noScript_8 : decode cX9_noScript 8 = .ok (.aload_n 0, 1) := by decide +kernel
theorem dX9_noScript_9 : decode cX9_noScript 9 = .ok (.getfield 7, 3) := by decide +kernel
theorem dX9_noScript_12 : decode cX9_noScript 12 = .ok (.bipush 6, 2) := by decide +kernel
theorem dX9_noScript_14 : decode cX9_noScript 14 = .ok (.iconst 0, 1) := by decide +kernel
theorem dX9_noScript_15 : decode cX9_noScript 15 = .ok (.iastore, 1) := by decide +kernel
theorem dX9_noScript_16 : decode cX9_noScript 16 = .ok (.iload_n 1, 1) := by decide +kernel
theorem dX9_noScript_17 : decode cX9_noScript 17 = .ok (.ireturn, 1) := by decide +kernel
theorem dX9_rule_0 : decode cX9_rule 0 = .ok (.iload_n 1, 1) := by decide +kernel
theorem dX9_rule_1 : decode cX9_rule 1 = .ok (.iconst 0, 1) := by decide +kernel
theorem dX9_rule_2 : decode cX9_rule 2 = .ok (.iconst 3, 1) := by decide +kernel
theorem dX9_rule_3 : decode cX9_rule 3 = .ok (.invokestatic 77, 3) := by decide +kernel
theorem dX9_rule_6 : decode cX9_rule 6 = .ok (.ifCond .eq 21, 3) := by decide +kernel
theorem dX9_rule_9 : decode cX9_rule 9 = .ok (.iload_n 2, 1) := by decide +kernel
theorem dX9_rule_10 : decode cX9_rule 10 = .ok (.iconst 0, 1) := by decide +kernel
theorem dX9_rule_11 : decode cX9_rule 11 = .ok (.iload_n 1, 1) := by decide +kernel
theorem dX9_rule_12 : decode cX9_rule 12 = .ok (.ifCond .ne 7, 3) := by decide +kernel
theorem dX9_rule_15 : decode cX9_rule 15 = .ok (.iconst 5, 1) := by decide +kernel
theorem dX9_rule_16 : decode cX9_rule 16 = .ok (.goto 5, 3) := by decide +kernel
theorem dX9_rule_19 : decode cX9_rule 19 = .ok (.bipush 100, 2) := by decide +kernel
theorem dX9_rule_21 : decode cX9_rule 21 = .ok (.invokestatic 77, 3) := by decide +kernel
theorem dX9_rule_24 : decode cX9_rule 24 = .ok (.ifCond .ne 5, 3) := by decide +kernel
theorem dX9_rule_27 : decode cX9_rule 27 = .ok (.iconst (-1), 1) := by decide +kernel
theorem dX9_rule_28 : decode cX9_rule 28 = .ok (.ireturn, 1) := by decide +kernel
theorem dX9_rule_29 : decode cX9_rule 29 = .ok (.aload_n 0, 1) := by decide +kernel
theorem dX9_rule_30 : decode cX9_rule 30 = .ok (.getfield 25, 3) := by decide +kernel
theorem dX9_rule_33 : decode cX9_rule 33 = .ok (.iload_n 1, 1) := by decide +kernel
theorem dX9_rule_34 : decode cX9_rule 34 = .ok (.iaload, 1) := by decide +kernel
theorem dX9_rule_35 : decode cX9_rule 35 = .ok (.istore_n 3, 1) := by decide +kernel
theorem dX9_rule_36 : decode cX9_rule 36 = .ok (.aload_n 0, 1) := by decide +kernel
theorem dX9_rule_37 : decode cX9_rule 37 = .ok (.getfield 25, 3) := by decide +kernel
theorem dX9_rule_40 : decode cX9_rule 40 = .ok (.iload_n 1, 1) := by decide +kernel
theorem dX9_rule_41 : decode cX9_rule 41 = .ok (.iload_n 2, 1) := by decide +kernel
theorem dX9_rule_42 : decode cX9_rule 42 = .ok (.iastore, 1) := by decide +kernel
theorem dX9_rule_43 : decode cX9_rule 43 = .ok (.iload_n 3, 1) := by decide +kernel
theorem dX9_rule_44 : decode cX9_rule 44 = .ok (.ireturn, 1) := by decide +kernel
theorem dX9_pairCost_0 : decode cX9_pairCost 0 = .ok (.aload_n 0, 1) := by decide +kernel
theorem dX9_pairCost_1 : decode cX9_pairCost 1 = .ok (.getfield 13, 3) := by decide +kernel
theorem dX9_pairCost_4 : decode cX9_pairCost 4 = .ok (.bipush 40, 2) := by decide +kernel
theorem dX9_pairCost_6 : decode cX9_pairCost 6 = .ok (.iload_n 1, 1) := by decide +kernel
theorem dX9_pairCost_7 : decode cX9_pairCost 7 = .ok (.imul, 1) := by decide +kernel
theorem dX9_pairCost_8 : decode cX9_pairCost 8 = .ok (.iload_n 2, 1) := by decide +kernel
theorem dX9_pairCost_9 : decode cX9_pairCost 9 = .ok (.iadd, 1) := by decide +kernel
theorem dX9_pairCost_10 : decode cX9_pairCost 10 = .ok (.iaload, 1) := by decide +kernel
theorem dX9_pairCost_11 : decode cX9_pairCost 11 = .ok (.aload_n 0, 1) := by decide +kernel
theorem dX9_pairCost_12 : decode cX9_pairCost 12 = .ok (.getfield 13, 3) := by decide +kernel
theorem dX9_pairCost_15 : decode cX9_pairCost 15 = .ok (.bipush 40, 2) := by decide +kernel
theorem dX9_pairCost_17 : decode cX9_pairCost 17 = .ok (.iload_n 3, 1) := by decide +kernel
theorem dX9_pairCost_18 : decode cX9_pairCost 18 = .ok (.imul, 1) := by decide +kernel
theorem dX9_pairCost_19 : decode cX9_pairCost 19 = .ok (.iload 4, 2) := by decide +kernel
theorem dX9_pairCost_21 : decode cX9_pairCost 21 = .ok (.iadd, 1) := by decide +kernel
theorem dX9_pairCost_22 : decode cX9_pairCost 22 = .ok (.iaload, 1) := by decide +kernel
theorem dX9_pairCost_23 : decode cX9_pairCost 23 = .ok (.isub, 1) := by decide +kernel
theorem dX9_pairCost_24 : decode cX9_pairCost 24 = .ok (.istore 5, 2) := by decide +kernel
theorem dX9_pairCost_26 : decode cX9_pairCost 26 = .ok (.iload 5, 2) := by decide +kernel
theorem dX9_pairCost_28 : decode cX9_pairCost 28 = .ok (.ifCond .ge 9, 3) := by decide +kernel
theorem dX9_pairCost_31 : decode cX9_pairCost 31 = .ok (.iload 5, 2) := by decide +kernel
theorem dX9_pairCost_33 : decode cX9_pairCost 33 = .ok (.ineg, 1) := by decide +kernel
theorem dX9_pairCost_34 : decode cX9_pairCost 34 = .ok (.goto 5, 3) := by decide +kernel
theorem dX9_pairCost_37 : decode cX9_pairCost 37 = .ok (.iload 5, 2) := by decide +kernel
theorem dX9_pairCost_39 : decode cX9_pairCost 39 = .ok (.istore 5, 2) := by decide +kernel
theorem dX9_pairCost_41 : decode cX9_pairCost 41 = .ok (.iload 5, 2) := by decide +kernel
theorem dX9_pairCost_43 : decode cX9_pairCost 43 = .ok (.iconst 5, 1) := by decide +kernel
theorem dX9_pairCost_44 : decode cX9_pairCost 44 = .ok (.if_icmp .le 7, 3) := by decide +kernel
theorem dX9_pairCost_47 : decode cX9_pairCost 47 = .ok (.iconst 5, 1) := by decide +kernel
theorem dX9_pairCost_48 : decode cX9_pairCost 48 = .ok (.goto 5, 3) := by decide +kernel
theorem dX9_pairCost_51 : decode cX9_pairCost 51 = .ok (.iload 5, 2) := by decide +kernel
theorem dX9_pairCost_53 : decode cX9_pairCost 53 = .ok (.ireturn, 1) := by decide +kernel
theorem dX9_lines_0 : decode cX9_lines 0 = .ok (.aload_n 0, 1) := by decide +kernel
theorem dX9_lines_1 : decode cX9_lines 1 = .ok (.getfield 7, 3) := by decide +kernel
theorem dX9_lines_4 : decode cX9_lines 4 = .ok (.iload_n 1, 1) := by decide +kernel
theorem dX9_lines_5 : decode cX9_lines 5 = .ok (.iaload, 1) := by decide +kernel
theorem dX9_lines_6 : decode cX9_lines 6 = .ok (.istore_n 3, 1) := by decide +kernel
theorem dX9_lines_7 : decode cX9_lines 7 = .ok (.aload_n 0, 1) := by decide +kernel
theorem dX9_lines_8 : decode cX9_lines 8 = .ok (.getfield 7, 3) := by decide +kernel
theorem dX9_lines_11 : decode cX9_lines 11 = .ok (.iload_n 2, 1) := by decide +kernel
theorem dX9_lines_12 : decode cX9_lines 12 = .ok (.iaload, 1) := by decide +kernel
theorem dX9_lines_13 : decode cX9_lines 13 = .ok (.istore 4, 2) := by decide +kernel
theorem dX9_lines_15 : decode cX9_lines 15 = .ok (.iload_n 3, 1) := by decide +kernel
theorem dX9_lines_16 : decode cX9_lines 16 = .ok (.istore 5, 2) := by decide +kernel
theorem dX9_lines_18 : decode cX9_lines 18 = .ok (.iload 5, 2) := by decide +kernel
theorem dX9_lines_20 : decode cX9_lines 20 = .ok (.ifCond .lt 212, 3) := by decide +kernel
theorem dX9_lines_23 : decode cX9_lines 23 = .ok (.iload 4, 2) := by decide +kernel
theorem dX9_lines_25 : decode cX9_lines 25 = .ok (.istore 6, 2) := by decide +kernel
theorem dX9_lines_27 : decode cX9_lines 27 = .ok (.iload 6, 2) := by decide +kernel
theorem dX9_lines_29 : decode cX9_lines 29 = .ok (.ifCond .lt 197, 3) := by decide +kernel
theorem dX9_lines_32 : decode cX9_lines 32 = .ok (.iload 5, 2) := by decide +kernel
theorem dX9_lines_34 : decode cX9_lines 34 = .ok (.iload_n 3, 1) := by decide +kernel
theorem dX9_lines_35 : decode cX9_lines 35 = .ok (.if_icmp .ne 14, 3) := by decide +kernel
theorem dX9_lines_38 : decode cX9_lines 38 = .ok (.iload 6, 2) := by decide +kernel
theorem dX9_lines_40 : decode cX9_lines 40 = .ok (.iload 4, 2) := by decide +kernel
theorem dX9_lines_42 : decode cX9_lines 42 = .ok (.if_icmp .ne 7, 3) := by decide +kernel
theorem dX9_lines_45 : decode cX9_lines 45 = .ok (.iconst 0, 1) := by decide +kernel
theorem dX9_lines_46 : decode cX9_lines 46 = .ok (.goto 6, 3) := by decide +kernel
theorem dX9_lines_49 : decode cX9_lines 49 = .ok (.sipush 9999, 3) := by decide +kernel
theorem dX9_lines_52 : decode cX9_lines 52 = .ok (.istore 7, 2) := by decide +kernel
theorem dX9_lines_54 : decode cX9_lines 54 = .ok (.iload 5, 2) := by decide +kernel
theorem dX9_lines_56 : decode cX9_lines 56 = .ok (.iload_n 3, 1) := by decide +kernel
theorem dX9_lines_57 : decode cX9_lines 57 = .ok (.if_icmp .ge 41, 3) := by decide +kernel
theorem dX9_lines_60 : decode cX9_lines 60 = .ok (.iload 6, 2) := by decide +kernel
theorem dX9_lines_62 : decode cX9_lines 62 = .ok (.iload 4, 2) := by decide +kernel
theorem dX9_lines_64 : decode cX9_lines 64 = .ok (.if_icmp .ge 34, 3) := by decide +kernel
theorem dX9_lines_67 : decode cX9_lines 67 = .ok (.aload_n 0, 1) := by decide +kernel
theorem dX9_lines_68 : decode cX9_lines 68 = .ok (.getfield 55, 3) := by decide +kernel
theorem dX9_lines_71 : decode cX9_lines 71 = .ok (.bipush 41, 2) := by decide +kernel
theorem dX9_lines_73 : decode cX9_lines 73 = .ok (.iload 5, 2) := by decide +kernel
theorem dX9_lines_75 : decode cX9_lines 75 = .ok (.imul, 1) := by decide +kernel
theorem dX9_lines_76 : decode cX9_lines 76 = .ok (.bipush 41, 2) := by decide +kernel
theorem dX9_lines_78 : decode cX9_lines 78 = .ok (.iadd, 1) := by decide +kernel
theorem dX9_lines_79 : decode cX9_lines 79 = .ok (.iload 6, 2) := by decide +kernel
theorem dX9_lines_81 : decode cX9_lines 81 = .ok (.iadd, 1) := by decide +kernel
theorem dX9_lines_82 : decode cX9_lines 82 = .ok (.iconst 1, 1) := by decide +kernel
theorem dX9_lines_83 : decode cX9_lines 83 = .ok (.iadd, 1) := by decide +kernel
theorem dX9_lines_84 : decode cX9_lines 84 = .ok (.iaload, 1) := by decide +kernel
theorem dX9_lines_85 : decode cX9_lines 85 = .ok (.aload_n 0, 1) := by decide +kernel
theorem dX9_lines_86 : decode cX9_lines 86 = .ok (.iload_n 1, 1) := by decide +kernel
theorem dX9_lines_87 : decode cX9_lines 87 = .ok (.iload 5, 2) := by decide +kernel
theorem dX9_lines_89 : decode cX9_lines 89 = .ok (.iload_n 2, 1) := by decide +kernel
theorem dX9_lines_90 : decode cX9_lines 90 = .ok (.iload 6, 2) := by decide +kernel
theorem dX9_lines_92 : decode cX9_lines 92 = .ok (.invokevirtual 102, 3) := by decide +kernel
theorem dX9_lines_95 : decode cX9_lines 95 = .ok (.iadd, 1) := by decide +kernel
theorem dX9_lines_96 : decode cX9_lines 96 = .ok (.istore 7, 2) := by decide +kernel
theorem dX9_lines_98 : decode cX9_lines 98 = .ok (.iload 6, 2) := by decide +kernel
theorem dX9_lines_100 : decode cX9_lines 100 = .ok (.iload 4, 2) := by decide +kernel
theorem dX9_lines_102 : decode cX9_lines 102 = .ok (.if_icmp .ge 45, 3) := by decide +kernel
theorem dX9_lines_105 : decode cX9_lines 105 = .ok (.aload_n 0, 1) := by decide +kernel
theorem dX9_lines_106 : decode cX9_lines 106 = .ok (.getfield 55, 3) := by decide +kernel
theorem dX9_lines_109 : decode cX9_lines 109 = .ok (.bipush 41, 2) := by decide +kernel
theorem dX9_lines_111 : decode cX9_lines 111 = .ok (.iload 5, 2) := by decide +kernel
theorem dX9_lines_113 : decode cX9_lines 113 = .ok (.imul, 1) := by decide +kernel
theorem dX9_lines_114 : decode cX9_lines 114 = .ok (.iload 6, 2) := by decide +kernel
theorem dX9_lines_116 : decode cX9_lines 116 = .ok (.iadd, 1) := by decide +kernel
theorem dX9_lines_117 : decode cX9_lines 117 = .ok (.iconst 1, 1) := by decide +kernel
theorem dX9_lines_118 : decode cX9_lines 118 = .ok (.iadd, 1) := by decide +kernel
theorem dX9_lines_119 : decode cX9_lines 119 = .ok (.iaload, 1) := by decide +kernel
theorem dX9_lines_120 : decode cX9_lines 120 = .ok (.iconst 3, 1) := by decide +kernel
theorem dX9_lines_121 : decode cX9_lines 121 = .ok (.iadd, 1) := by decide +kernel
theorem dX9_lines_122 : decode cX9_lines 122 = .ok (.iload 7, 2) := by decide +kernel
theorem dX9_lines_124 : decode cX9_lines 124 = .ok (.if_icmp .ge 23, 3) := by decide +kernel
theorem dX9_lines_127 : decode cX9_lines 127 = .ok (.aload_n 0, 1) := by decide +kernel
theorem dX9_lines_128 : decode cX9_lines 128 = .ok (.getfield 55, 3) := by decide +kernel
theorem dX9_lines_131 : decode cX9_lines 131 = .ok (.bipush 41, 2) := by decide +kernel
theorem dX9_lines_133 : decode cX9_lines 133 = .ok (.iload 5, 2) := by decide +kernel
theorem dX9_lines_135 : decode cX9_lines 135 = .ok (.imul, 1) := by decide +kernel
theorem dX9_lines_136 : decode cX9_lines 136 = .ok (.iload 6, 2) := by decide +kernel
theorem dX9_lines_138 : decode cX9_lines 138 = .ok (.iadd, 1) := by decide +kernel
theorem dX9_lines_139 : decode cX9_lines 139 = .ok (.iconst 1, 1) := by decide +kernel
theorem dX9_lines_140 : decode cX9_lines 140 = .ok (.iadd, 1) := by decide +kernel
theorem dX9_lines_141 : decode cX9_lines 141 = .ok (.iaload, 1) := by decide +kernel
theorem dX9_lines_142 : decode cX9_lines 142 = .ok (.iconst 3, 1) := by decide +kernel
theorem dX9_lines_143 : decode cX9_lines 143 = .ok (.iadd, 1) := by decide +kernel
theorem dX9_lines_144 : decode cX9_lines 144 = .ok (.goto 5, 3) := by decide +kernel
theorem dX9_lines_147 : decode cX9_lines 147 = .ok (.iload 7, 2) := by decide +kernel
theorem dX9_lines_149 : decode cX9_lines 149 = .ok (.istore 7, 2) := by decide +kernel
theorem dX9_lines_151 : decode cX9_lines 151 = .ok (.iload 5, 2) := by decide +kernel
theorem dX9_lines_153 : decode cX9_lines 153 = .ok (.iload_n 3, 1) := by decide +kernel
theorem dX9_lines_154 : decode cX9_lines 154 = .ok (.if_icmp .ge 47, 3) := by decide +kernel
theorem dX9_lines_157 : decode cX9_lines 157 = .ok (.aload_n 0, 1) := by decide +kernel
theorem dX9_lines_158 : decode cX9_lines 158 = .ok (.getfield 55, 3) := by decide +kernel
theorem dX9_lines_161 : decode cX9_lines 161 = .ok (.bipush 41, 2) := by decide +kernel
theorem dX9_lines_163 : decode cX9_lines 163 = .ok (.iload 5, 2) := by decide +kernel
theorem dX9_lines_165 : decode cX9_lines 165 = .ok (.imul, 1) := by decide +kernel
theorem dX9_lines_166 : decode cX9_lines 166 = .ok (.bipush 41, 2) := by decide +kernel
theorem dX9_lines_168 : decode cX9_lines 168 = .ok (.iadd, 1) := by decide +kernel
theorem dX9_lines_169 : decode cX9_lines 169 = .ok (.iload 6, 2) := by decide +kernel
theorem dX9_lines_171 : decode cX9_lines 171 = .ok (.iadd, 1) := by decide +kernel
theorem dX9_lines_172 : decode cX9_lines 172 = .ok (.iaload, 1) := by decide +kernel
theorem dX9_lines_173 : decode cX9_lines 173 = .ok (.iconst 3, 1) := by decide +kernel
theorem dX9_lines_174 : decode cX9_lines 174 = .ok (.iadd, 1) := by decide +kernel
theorem dX9_lines_175 : decode cX9_lines 175 = .ok (.iload 7, 2) := by decide +kernel
theorem dX9_lines_177 : decode cX9_lines 177 = .ok (.if_icmp .ge 24, 3) := by decide +kernel
theorem dX9_lines_180 : decode cX9_lines 180 = .ok (.aload_n 0, 1) := by decide +kernel
theorem dX9_lines_181 : decode cX9_lines 181 = .ok (.getfield 55, 3) := by decide +kernel
theorem dX9_lines_184 : decode cX9_lines 184 = .ok (.bipush 41, 2) := by decide +kernel
theorem dX9_lines_186 : decode cX9_lines 186 = .ok (.iload 5, 2) := by decide +kernel
theorem dX9_lines_188 : decode cX9_lines 188 = .ok (.imul, 1) := by decide +kernel
theorem dX9_lines_189 : decode cX9_lines 189 = .ok (.bipush 41, 2) := by decide +kernel
theorem dX9_lines_191 : decode cX9_lines 191 = .ok (.iadd, 1) := by decide +kernel
theorem dX9_lines_192 : decode cX9_lines 192 = .ok (.iload 6, 2) := by decide +kernel
theorem dX9_lines_194 : decode cX9_lines 194 = .ok (.iadd, 1) := by decide +kernel
theorem dX9_lines_195 : decode cX9_lines 195 = .ok (.iaload, 1) := by decide +kernel
theorem dX9_lines_196 : decode cX9_lines 196 = .ok (.iconst 3, 1) := by decide +kernel
theorem dX9_lines_197 : decode cX9_lines 197 = .ok (.iadd, 1) := by decide +kernel
theorem dX9_lines_198 : decode cX9_lines 198 = .ok (.goto 5, 3) := by decide +kernel
theorem dX9_lines_201 : decode cX9_lines 201 = .ok (.iload 7, 2) := by decide +kernel
theorem dX9_lines_203 : decode cX9_lines 203 = .ok (.istore 7, 2) := by decide +kernel
theorem dX9_lines_205 : decode cX9_lines 205 = .ok (.aload_n 0, 1) := by decide +kernel
theorem dX9_lines_206 : decode cX9_lines 206 = .ok (.getfield 55, 3) := by decide +kernel
theorem dX9_lines_209 : decode cX9_lines 209 = .ok (.bipush 41, 2) := by decide +kernel
theorem dX9_lines_211 : decode cX9_lines 211 = .ok (.iload 5, 2) := by decide +kernel
theorem dX9_lines_213 : decode cX9_lines 213 = .ok (.imul, 1) := by decide +kernel
theorem dX9_lines_214 : decode cX9_lines 214 = .ok (.iload 6, 2) := by decide +kernel
theorem dX9_lines_216 : decode cX9_lines 216 = .ok (.iadd, 1) := by decide +kernel
theorem dX9_lines_217 : decode cX9_lines 217 = .ok (.iload 7, 2) := by decide +kernel
theorem dX9_lines_219 : decode cX9_lines 219 = .ok (.iastore, 1) := by decide +kernel
theorem dX9_lines_220 : decode cX9_lines 220 = .ok (.iinc 6 (-1), 3) := by decide +kernel
theorem dX9_lines_223 : decode cX9_lines 223 = .ok (.goto (-196), 3) := by decide +kernel
theorem dX9_lines_226 : decode cX9_lines 226 = .ok (.iinc 5 (-1), 3) := by decide +kernel
theorem dX9_lines_229 : decode cX9_lines 229 = .ok (.goto (-211), 3) := by decide +kernel
theorem dX9_lines_232 : decode cX9_lines 232 = .ok (.iconst 0, 1) := by decide +kernel
theorem dX9_lines_233 : decode cX9_lines 233 = .ok (.istore 5, 2) := by decide +kernel
theorem dX9_lines_235 : decode cX9_lines 235 = .ok (.iconst 0, 1) := by decide +kernel
theorem dX9_lines_236 : decode cX9_lines 236 = .ok (.istore 6, 2) := by decide +kernel
theorem dX9_lines_238 : decode cX9_lines 238 = .ok (.iload 6, 2) := by decide +kernel
theorem dX9_lines_240 : decode cX9_lines 240 = .ok (.iload_n 3, 1) := by decide +kernel
theorem dX9_lines_241 : decode cX9_lines 241 = .ok (.if_icmp .ge 127, 3) := by decide +kernel
theorem dX9_lines_244 : decode cX9_lines 244 = .ok (.aload_n 0, 1) := by decide +kernel
theorem dX9_lines_245 : decode cX9_lines 245 = .ok (.getfield 55, 3) := by decide +kernel
theorem dX9_lines_248 : decode cX9_lines 248 = .ok (.bipush 41, 2) := by decide +kernel
theorem dX9_lines_250 : decode cX9_lines 250 = .ok (.iload 6, 2) := by decide +kernel
theorem dX9_lines_252 : decode cX9_lines 252 = .ok (.imul, 1) := by decide +kernel
theorem dX9_lines_253 : decode cX9_lines 253 = .ok (.iload 5, 2) := by decide +kernel
theorem dX9_lines_255 : decode cX9_lines 255 = .ok (.iadd, 1) := by decide +kernel
theorem dX9_lines_256 : decode cX9_lines 256 = .ok (.iaload, 1) := by decide +kernel
theorem dX9_lines_257 : decode cX9_lines 257 = .ok (.istore 7, 2) := by decide +kernel
theorem dX9_lines_259 : decode cX9_lines 259 = .ok (.iload 5, 2) := by decide +kernel
theorem dX9_lines_261 : decode cX9_lines 261 = .ok (.iload 4, 2) := by decide +kernel
theorem dX9_lines_263 : decode cX9_lines 263 = .ok (.if_icmp .ge 55, 3) := by decide +kernel
theorem dX9_lines_266 : decode cX9_lines 266 = .ok (.iload 7, 2) := by decide +kernel
theorem dX9_lines_268 : decode cX9_lines 268 = .ok (.aload_n 0, 1) := by decide +kernel
theorem dX9_lines_269 : decode cX9_lines 269 = .ok (.getfield 55, 3) := by decide +kernel
theorem dX9_lines_272 : decode cX9_lines 272 = .ok (.bipush 41, 2) := by decide +kernel
theorem dX9_lines_274 : decode cX9_lines 274 = .ok (.iload 6, 2) := by decide +kernel
theorem dX9_lines_276 : decode cX9_lines 276 = .ok (.imul, 1) := by decide +kernel
theorem dX9_lines_277 : decode cX9_lines 277 = .ok (.bipush 41, 2) := by decide +kernel
theorem dX9_lines_279 : decode cX9_lines 279 = .ok (.iadd, 1) := by decide +kernel
theorem dX9_lines_280 : decode cX9_lines 280 = .ok (.iload 5, 2) := by decide +kernel
theorem dX9_lines_282 : decode cX9_lines 282 = .ok (.iadd, 1) := by decide +kernel
theorem dX9_lines_283 : decode cX9_lines 283 = .ok (.iconst 1, 1) := by decide +kernel
theorem dX9_lines_284 : decode cX9_lines 284 = .ok (.iadd, 1) := by decide +kernel
theorem dX9_lines_285 : decode cX9_lines 285 = .ok (.iaload, 1) := by decide +kernel
theorem dX9_lines_286 : decode cX9_lines 286 = .ok (.aload_n 0, 1) := by decide +kernel
theorem dX9_lines_287 : decode cX9_lines 287 = .ok (.iload_n 1, 1) := by decide +kernel
theorem dX9_lines_288 : decode cX9_lines 288 = .ok (.iload 6, 2) := by decide +kernel
theorem dX9_lines_290 : decode cX9_lines 290 = .ok (.iload_n 2, 1) := by decide +kernel
theorem dX9_lines_291 : decode cX9_lines 291 = .ok (.iload 5, 2) := by decide +kernel
theorem dX9_lines_293 : decode cX9_lines 293 = .ok (.invokevirtual 102, 3) := by decide +kernel
theorem dX9_lines_296 : decode cX9_lines 296 = .ok (.iadd, 1) := by decide +kernel
theorem dX9_lines_297 : decode cX9_lines 297 = .ok (.if_icmp .ne 21, 3) := by decide +kernel
theorem dX9_lines_300 : decode cX9_lines 300 = .ok (.aload_n 0, 1) := by decide +kernel
theorem dX9_lines_301 : decode cX9_lines 301 = .ok (.getfield 58, 3) := by decide +kernel
theorem dX9_lines_304 : decode cX9_lines 304 = .ok (.iload 6, 2) := by decide +kernel
theorem dX9_lines_306 : decode cX9_lines 306 = .ok (.iload 5, 2) := by decide +kernel
theorem dX9_lines_308 : decode cX9_lines 308 = .ok (.iastore, 1) := by decide +kernel
theorem dX9_lines_309 : decode cX9_lines 309 = .ok (.iinc 6 1, 3) := by decide +kernel
theorem dX9_lines_312 : decode cX9_lines 312 = .ok (.iinc 5 1, 3) := by decide +kernel
theorem dX9_lines_315 : decode cX9_lines 315 = .ok (.goto 50, 3) := by decide +kernel
theorem dX9_lines_318 : decode cX9_lines 318 = .ok (.iload 5, 2) := by decide +kernel
theorem dX9_lines_320 : decode cX9_lines 320 = .ok (.iload 4, 2) := by decide +kernel
theorem dX9_lines_322 : decode cX9_lines 322 = .ok (.if_icmp .ge 31, 3) := by decide +kernel
theorem dX9_lines_325 : decode cX9_lines 325 = .ok (.iload 7, 2) := by decide +kernel
theorem dX9_lines_327 : decode cX9_lines 327 = .ok (.aload_n 0, 1) := by decide +kernel
theorem dX9_lines_328 : decode cX9_lines 328 = .ok (.getfield 55, 3) := by decide +kernel
theorem dX9_lines_331 : decode cX9_lines 331 = .ok (.bipush 41, 2) := by decide +kernel
theorem dX9_lines_333 : decode cX9_lines 333 = .ok (.iload 6, 2) := by decide +kernel
theorem dX9_lines_335 : decode cX9_lines 335 = .ok (.imul, 1) := by decide +kernel
theorem dX9_lines_336 : decode cX9_lines 336 = .ok (.iload 5, 2) := by decide +kernel
theorem dX9_lines_338 : decode cX9_lines 338 = .ok (.iadd, 1) := by decide +kernel
theorem dX9_lines_339 : decode cX9_lines 339 = .ok (.iconst 1, 1) := by decide +kernel
theorem dX9_lines_340 : decode cX9_lines 340 = .ok (.iadd, 1) := by decide +kernel
theorem dX9_lines_341 : decode cX9_lines 341 = .ok (.iaload, 1) := by decide +kernel
theorem dX9_lines_342 : decode cX9_lines 342 = .ok (.iconst 3, 1) := by decide +kernel
theorem dX9_lines_343 : decode cX9_lines 343 = .ok (.iadd, 1) := by decide +kernel
theorem dX9_lines_344 : decode cX9_lines 344 = .ok (.if_icmp .ne 9, 3) := by decide +kernel
theorem dX9_lines_347 : decode cX9_lines 347 = .ok (.iinc 5 1, 3) := by decide +kernel
theorem dX9_lines_350 : decode cX9_lines 350 = .ok (.goto 15, 3) := by decide +kernel
theorem dX9_lines_353 : decode cX9_lines 353 = .ok (.aload_n 0, 1) := by decide +kernel
theorem dX9_lines_354 : decode cX9_lines 354 = .ok (.getfield 58, 3) := by decide +kernel
theorem dX9_lines_357 : decode cX9_lines 357 = .ok (.iload 6, 2) := by decide +kernel
theorem dX9_lines_359 : decode cX9_lines 359 = .ok (.bipush (-4), 2) := by decide +kernel
theorem dX9_lines_361 : decode cX9_lines 361 = .ok (.iastore, 1) := by decide +kernel
theorem dX9_lines_362 : decode cX9_lines 362 = .ok (.iinc 6 1, 3) := by decide +kernel
theorem dX9_lines_365 : decode cX9_lines 365 = .ok (.goto (-127), 3) := by decide +kernel
theorem dX9_lines_368 : decode cX9_lines 368 = .ok (.return_, 1) := by decide +kernel
theorem dX9_line_0 : decode cX9_line 0 = .ok (.iload_n 1, 1) := by decide +kernel
theorem dX9_line_1 : decode cX9_line 1 = .ok (.iconst (-1), 1) := by decide +kernel
theorem dX9_line_2 : decode cX9_line 2 = .ok (.if_icmp .eq 11, 3) := by decide +kernel
theorem dX9_line_5 : decode cX9_line 5 = .ok (.aload_n 0, 1) := by decide +kernel
theorem dX9_line_6 : decode cX9_line 6 = .ok (.iload_n 1, 1) := by decide +kernel
theorem dX9_line_7 : decode cX9_line 7 = .ok (.invokevirtual 81, 3) := by decide +kernel
theorem dX9_line_10 : decode cX9_line 10 = .ok (.ifCond .eq 16, 3) := by decide +kernel
theorem dX9_line_13 : decode cX9_line 13 = .ok (.iload_n 2, 1) := by decide +kernel
theorem dX9_line_14 : decode cX9_line 14 = .ok (.iconst (-1), 1) := by decide +kernel
theorem dX9_line_15 : decode cX9_line 15 = .ok (.if_icmp .eq 13, 3) := by decide +kernel
theorem dX9_line_18 : decode cX9_line 18 = .ok (.aload_n 0, 1) := by decide +kernel
theorem dX9_line_19 : decode cX9_line 19 = .ok (.iload_n 2, 1) := by decide +kernel
theorem dX9_line_20 : decode cX9_line 20 = .ok (.invokevirtual 81, 3) := by decide +kernel
theorem dX9_line_23 : decode cX9_line 23 = .ok (.ifCond .ne 5, 3) := by decide +kernel
theorem dX9_line_26 : decode cX9_line 26 = .ok (.iconst (-1), 1) := by decide +kernel
theorem dX9_line_27 : decode cX9_line 27 = .ok (.ireturn, 1) := by decide +kernel
theorem dX9_line_28 : decode cX9_line 28 = .ok (.iload_n 1, 1) := by decide +kernel
theorem dX9_line_29 : decode cX9_line 29 = .ok (.ifCond .ge 8, 3) := by decide +kernel
theorem dX9_line_32 : decode cX9_line 32 = .ok (.bipush 6, 2) := by decide +kernel
theorem dX9_line_34 : decode cX9_line 34 = .ok (.goto 4, 3) := by decide +kernel
theorem dX9_line_37 : decode cX9_line 37 = .ok (.iload_n 1, 1) := by decide +kernel
theorem dX9_line_38 : decode cX9_line 38 = .ok (.istore 4, 2) := by decide +kernel
theorem dX9_line_40 : decode cX9_line 40 = .ok (.iload_n 3, 1) := by decide +kernel
theorem dX9_line_41 : decode cX9_line 41 = .ok (.iconst (-1), 1) := by decide +kernel
theorem dX9_line_42 : decode cX9_line 42 = .ok (.aload_n 0, 1) := by decide +kernel
theorem dX9_line_43 : decode cX9_line 43 = .ok (.getfield 7, 3) := by decide +kernel
theorem dX9_line_46 : decode cX9_line 46 = .ok (.iload 4, 2) := by decide +kernel
theorem dX9_line_48 : decode cX9_line 48 = .ok (.iaload, 1) := by decide +kernel
theorem dX9_line_49 : decode cX9_line 49 = .ok (.iconst 1, 1) := by decide +kernel
theorem dX9_line_50 : decode cX9_line 50 = .ok (.isub, 1) := by decide +kernel
theorem dX9_line_51 : decode cX9_line 51 = .ok (.invokestatic 77, 3) := by decide +kernel
theorem dX9_line_54 : decode cX9_line 54 = .ok (.ifCond .ne 5, 3) := by decide +kernel
theorem dX9_line_57 : decode cX9_line 57 = .ok (.iconst (-1), 1) := by decide +kernel
theorem dX9_line_58 : decode cX9_line 58 = .ok (.ireturn, 1) := by decide +kernel
theorem dX9_line_59 : decode cX9_line 59 = .ok (.aload_n 0, 1) := by decide +kernel
theorem dX9_line_60 : decode cX9_line 60 = .ok (.iload 4, 2) := by decide +kernel
theorem dX9_line_62 : decode cX9_line 62 = .ok (.iload_n 2, 1) := by decide +kernel
theorem dX9_line_63 : decode cX9_line 63 = .ok (.ifCond .ge 8, 3) := by decide +kernel
theorem dX9_line_66 : decode cX9_line 66 = .ok (.bipush 6, 2) := by decide +kernel
theorem dX9_line_68 : decode cX9_line 68 = .ok (.goto 4, 3) := by decide +kernel
theorem dX9_line_71 : decode cX9_line 71 = .ok (.iload_n 2, 1) := by decide +kernel
theorem dX9_line_72 : decode cX9_line 72 = .ok (.invokevirtual 106, 3) := by decide +kernel
theorem dX9_line_75 : decode cX9_line 75 = .ok (.iload_n 3, 1) := by decide +kernel
theorem dX9_line_76 : decode cX9_line 76 = .ok (.ifCond .ge 12, 3) := by decide +kernel
theorem dX9_line_79 : decode cX9_line 79 = .ok (.aload_n 0, 1) := by decide +kernel
theorem dX9_line_80 : decode cX9_line 80 = .ok (.getfield 55, 3) := by decide +kernel
theorem dX9_line_83 : decode cX9_line 83 = .ok (.iconst 0, 1) := by decide +kernel
theorem dX9_line_84 : decode cX9_line 84 = .ok (.iaload, 1) := by decide +kernel
theorem dX9_line_85 : decode cX9_line 85 = .ok (.goto 9, 3) := by decide +kernel
theorem dX9_line_88 : decode cX9_line 88 = .ok (.aload_n 0, 1) := by decide +kernel
theorem dX9_line_89 : decode cX9_line 89 = .ok (.getfield 58, 3) := by decide +kernel
theorem dX9_line_92 : decode cX9_line 92 = .ok (.iload_n 3, 1) := by decide +kernel
theorem dX9_line_93 : decode cX9_line 93 = .ok (.iaload, 1) := by decide +kernel
theorem dX9_line_94 : decode cX9_line 94 = .ok (.ireturn, 1) := by decide +kernel
theorem dX9_standAll_0 : decode cX9_standAll 0 = .ok (.iconst 0, 1) := by decide +kernel
theorem dX9_standAll_1 : decode cX9_standAll 1 = .ok (.istore_n 1, 1) := by decide +kernel
theorem dX9_standAll_2 : decode cX9_standAll 2 = .ok (.iload_n 1, 1) := by decide +kernel
theorem dX9_standAll_3 : decode cX9_standAll 3 = .ok (.aload_n 0, 1) := by decide +kernel
theorem dX9_standAll_4 : decode cX9_standAll 4 = .ok (.getfield 73, 3) := by decide +kernel
theorem dX9_standAll_7 : decode cX9_standAll 7 = .ok (.if_icmp .ge 113, 3) := by decide +kernel
theorem dX9_standAll_10 : decode cX9_standAll 10 = .ok (.aload_n 0, 1) := by decide +kernel
theorem dX9_standAll_11 : decode cX9_standAll 11 = .ok (.bipush 6, 2) := by decide +kernel
theorem dX9_standAll_13 : decode cX9_standAll 13 = .ok (.iload_n 1, 1) := by decide +kernel
theorem dX9_standAll_14 : decode cX9_standAll 14 = .ok (.invokevirtual 106, 3) := by decide +kernel
theorem dX9_standAll_17 : decode cX9_standAll 17 = .ok (.iconst 0, 1) := by decide +kernel
theorem dX9_standAll_18 : decode cX9_standAll 18 = .ok (.istore_n 2, 1) := by decide +kernel
theorem dX9_standAll_19 : decode cX9_standAll 19 = .ok (.iload_n 2, 1) := by decide +kernel
theorem dX9_standAll_20 : decode cX9_standAll 20 = .ok (.aload_n 0, 1) := by decide +kernel
theorem dX9_standAll_21 : decode cX9_standAll 21 = .ok (.getfield 7, 3) := by decide +kernel
theorem dX9_standAll_24 : decode cX9_standAll 24 = .ok (.bipush 6, 2) := by decide +kernel
theorem dX9_standAll_26 : decode cX9_standAll 26 = .ok (.iaload, 1) := by decide +kernel
theorem dX9_standAll_27 : decode cX9_standAll 27 = .ok (.if_icmp .ge 87, 3) := by decide +kernel
theorem dX9_standAll_30 : decode cX9_standAll 30 = .ok (.aload_n 0, 1) := by decide +kernel
theorem dX9_standAll_31 : decode cX9_standAll 31 = .ok (.getfield 58, 3) := by decide +kernel
theorem dX9_standAll_34 : decode cX9_standAll 34 = .ok (.iload_n 2, 1) := by decide +kernel
theorem dX9_standAll_35 : decode cX9_standAll 35 = .ok (.iaload, 1) := by decide +kernel
theorem dX9_standAll_36 : decode cX9_standAll 36 = .ok (.istore_n 3, 1) := by decide +kernel
theorem dX9_standAll_37 : decode cX9_standAll 37 = .ok (.iload_n 3, 1) := by decide +kernel
theorem dX9_standAll_38 : decode cX9_standAll 38 = .ok (.ifCond .ge 8, 3) := by decide +kernel
theorem dX9_standAll_41 : decode cX9_standAll 41 = .ok (.bipush 99, 2) := by decide +kernel
theorem dX9_standAll_43 : decode cX9_standAll 43 = .ok (.goto 25, 3) := by decide +kernel
theorem dX9_standAll_46 : decode cX9_standAll 46 = .ok (.aload_n 0, 1) := by decide +kernel
theorem dX9_standAll_47 : decode cX9_standAll 47 = .ok (.getfield 13, 3) := by decide +kernel
theorem dX9_standAll_50 : decode cX9_standAll 50 = .ok (.sipush 240, 3) := by decide +kernel
theorem dX9_standAll_53 : decode cX9_standAll 53 = .ok (.iload_n 2, 1) := by decide +kernel
theorem dX9_standAll_54 : decode cX9_standAll 54 = .ok (.iadd, 1) := by decide +kernel
theorem dX9_standAll_55 : decode cX9_standAll 55 = .ok (.iaload, 1) := by decide +kernel
theorem dX9_standAll_56 : decode cX9_standAll 56 = .ok (.aload_n 0, 1) := by decide +kernel
theorem dX9_standAll_57 : decode cX9_standAll 57 = .ok (.getfield 13, 3) := by decide +kernel
theorem dX9_standAll_60 : decode cX9_standAll 60 = .ok (.bipush 40, 2) := by decide +kernel
theorem dX9_standAll_62 : decode cX9_standAll 62 = .ok (.iload_n 1, 1) := by decide +kernel
theorem dX9_standAll_63 : decode cX9_standAll 63 = .ok (.imul, 1) := by decide +kernel
theorem dX9_standAll_64 : decode cX9_standAll 64 = .ok (.iload_n 3, 1) := by decide +kernel
theorem dX9_standAll_65 : decode cX9_standAll 65 = .ok (.iadd, 1) := by decide +kernel
theorem dX9_standAll_66 : decode cX9_standAll 66 = .ok (.iaload, 1) := by decide +kernel
theorem dX9_standAll_67 : decode cX9_standAll 67 = .ok (.isub, 1) := by decide +kernel
theorem dX9_standAll_68 : decode cX9_standAll 68 = .ok (.istore 4, 2) := by decide +kernel
theorem dX9_standAll_70 : decode cX9_standAll 70 = .ok (.aload_n 0, 1) := by decide +kernel
theorem dX9_standAll_71 : decode cX9_standAll 71 = .ok (.getfield 61, 3) := by decide +kernel
theorem dX9_standAll_74 : decode cX9_standAll 74 = .ok (.bipush 40, 2) := by decide +kernel
theorem dX9_standAll_76 : decode cX9_standAll 76 = .ok (.iload_n 1, 1) := by decide +kernel
theorem dX9_standAll_77 : decode cX9_standAll 77 = .ok (.imul, 1) := by decide +kernel
theorem dX9_standAll_78 : decode cX9_standAll 78 = .ok (.iload_n 2, 1) := by decide +kernel
theorem dX9_standAll_79 : decode cX9_standAll 79 = .ok (.iadd, 1) := by decide +kernel
theorem dX9_standAll_80 : decode cX9_standAll 80 = .ok (.iload 4, 2) := by decide +kernel
theorem dX9_standAll_82 : decode cX9_standAll 82 = .ok (.aload_n 0, 1) := by decide +kernel
theorem dX9_standAll_83 : decode cX9_standAll 83 = .ok (.getfield 25, 3) := by decide +kernel
theorem dX9_standAll_86 : decode cX9_standAll 86 = .ok (.iconst 0, 1) := by decide +kernel
theorem dX9_standAll_87 : decode cX9_standAll 87 = .ok (.iaload, 1) := by decide +kernel
theorem dX9_standAll_88 : decode cX9_standAll 88 = .ok (.ineg, 1) := by decide +kernel
theorem dX9_standAll_89 : decode cX9_standAll 89 = .ok (.aload_n 0, 1) := by decide +kernel
theorem dX9_standAll_90 : decode cX9_standAll 90 = .ok (.getfield 25, 3) := by decide +kernel
theorem dX9_standAll_93 : decode cX9_standAll 93 = .ok (.iconst 0, 1) := by decide +kernel
theorem dX9_standAll_94 : decode cX9_standAll 94 = .ok (.iaload, 1) := by decide +kernel
theorem dX9_standAll_95 : decode cX9_standAll 95 = .ok (.invokestatic 77, 3) := by decide +kernel
theorem dX9_standAll_98 : decode cX9_standAll 98 = .ok (.ifCond .eq 7, 3) := by decide +kernel
theorem dX9_standAll_101 : decode cX9_standAll 101 = .ok (.iload_n 3, 1) := by decide +kernel
theorem dX9_standAll_102 : decode cX9_standAll 102 = .ok (.goto 5, 3) := by decide +kernel
theorem dX9_standAll_105 : decode cX9_standAll 105 = .ok (.bipush (-4), 2) := by decide +kernel
theorem dX9_standAll_107 : decode cX9_standAll 107 = .ok (.iastore, 1) := by decide +kernel
theorem dX9_standAll_108 : decode cX9_standAll 108 = .ok (.iinc 2 1, 3) := by decide +kernel
theorem dX9_standAll_111 : decode cX9_standAll 111 = .ok (.goto (-92), 3) := by decide +kernel
theorem dX9_standAll_114 : decode cX9_standAll 114 = .ok (.iinc 1 1, 3) := by decide +kernel
theorem dX9_standAll_117 : decode cX9_standAll 117 = .ok (.goto (-115), 3) := by decide +kernel
theorem dX9_standAll_120 : decode cX9_standAll 120 = .ok (.return_, 1) := by decide +kernel
theorem dX9_isPlace_0 : decode cX9_isPlace 0 = .ok (.iload_n 1, 1) := by decide +kernel
theorem dX9_isPlace_1 : decode cX9_isPlace 1 = .ok (.iconst 0, 1) := by decide +kernel
theorem dX9_isPlace_2 : decode cX9_isPlace 2 = .ok (.aload_n 0, 1) := by decide +kernel
theorem dX9_isPlace_3 : decode cX9_isPlace 3 = .ok (.getfield 7, 3) := by decide +kernel
theorem dX9_isPlace_6 : decode cX9_isPlace 6 = .ok (.bipush 6, 2) := by decide +kernel
theorem dX9_isPlace_8 : decode cX9_isPlace 8 = .ok (.iaload, 1) := by decide +kernel
theorem dX9_isPlace_9 : decode cX9_isPlace 9 = .ok (.iconst 1, 1) := by decide +kernel
theorem dX9_isPlace_10 : decode cX9_isPlace 10 = .ok (.isub, 1) := by decide +kernel
theorem dX9_isPlace_11 : decode cX9_isPlace 11 = .ok (.invokestatic 77, 3) := by decide +kernel
theorem dX9_isPlace_14 : decode cX9_isPlace 14 = .ok (.ireturn, 1) := by decide +kernel
theorem dX9_stands_0 : decode cX9_stands 0 = .ok (.aload_n 0, 1) := by decide +kernel
theorem dX9_stands_1 : decode cX9_stands 1 = .ok (.iload_n 1, 1) := by decide +kernel
theorem dX9_stands_2 : decode cX9_stands 2 = .ok (.invokevirtual 81, 3) := by decide +kernel
theorem dX9_stands_5 : decode cX9_stands 5 = .ok (.ifCond .eq 11, 3) := by decide +kernel
theorem dX9_stands_8 : decode cX9_stands 8 = .ok (.aload_n 0, 1) := by decide +kernel
theorem dX9_stands_9 : decode cX9_stands 9 = .ok (.iload_n 2, 1) := by decide +kernel
theorem dX9_stands_10 : decode cX9_stands 10 = .ok (.invokevirtual 109, 3) := by decide +kernel
theorem dX9_stands_13 : decode cX9_stands 13 = .ok (.ifCond .ne 5, 3) := by decide +kernel
theorem dX9_stands_16 : decode cX9_stands 16 = .ok (.iconst (-1), 1) := by decide +kernel
theorem dX9_stands_17 : decode cX9_stands 17 = .ok (.ireturn, 1) := by decide +kernel
theorem dX9_stands_18 : decode cX9_stands 18 = .ok (.aload_n 0, 1) := by decide +kernel
theorem dX9_stands_19 : decode cX9_stands 19 = .ok (.invokevirtual 112, 3) := by decide +kernel
theorem dX9_stands_22 : decode cX9_stands 22 = .ok (.aload_n 0, 1) := by decide +kernel
theorem dX9_stands_23 : decode cX9_stands 23 = .ok (.getfield 61, 3) := by decide +kernel
theorem dX9_stands_26 : decode cX9_stands 26 = .ok (.bipush 40, 2) := by decide +kernel
theorem dX9_stands_28 : decode cX9_stands 28 = .ok (.iload_n 1, 1) := by decide +kernel
theorem dX9_stands_29 : decode cX9_stands 29 = .ok (.imul, 1) := by decide +kernel
theorem dX9_stands_30 : decode cX9_stands 30 = .ok (.iload_n 2, 1) := by decide +kernel
theorem dX9_stands_31 : decode cX9_stands 31 = .ok (.iadd, 1) := by decide +kernel
theorem dX9_stands_32 : decode cX9_stands 32 = .ok (.iaload, 1) := by decide +kernel
theorem dX9_stands_33 : decode cX9_stands 33 = .ok (.ireturn, 1) := by decide +kernel
theorem dX9_may_0 : decode cX9_may 0 = .ok (.iload_n 2, 1) := by decide +kernel
theorem dX9_may_1 : decode cX9_may 1 = .ok (.bipush 6, 2) := by decide +kernel
theorem dX9_may_3 : decode cX9_may 3 = .ok (.if_icmp .eq 25, 3) := by decide +kernel
theorem dX9_may_6 : decode cX9_may 6 = .ok (.iload_n 2, 1) := by decide +kernel
theorem dX9_may_7 : decode cX9_may 7 = .ok (.aload_n 0, 1) := by decide +kernel
theorem dX9_may_8 : decode cX9_may 8 = .ok (.getfield 73, 3) := by decide +kernel
theorem dX9_may_11 : decode cX9_may 11 = .ok (.if_icmp .ge 21, 3) := by decide +kernel
theorem dX9_may_14 : decode cX9_may 14 = .ok (.aload_n 0, 1) := by decide +kernel
theorem dX9_may_15 : decode cX9_may 15 = .ok (.getfield 61, 3) := by decide +kernel
theorem dX9_may_18 : decode cX9_may 18 = .ok (.bipush 40, 2) := by decide +kernel
theorem dX9_may_20 : decode cX9_may 20 = .ok (.iload_n 2, 1) := by decide +kernel
theorem dX9_may_21 : decode cX9_may 21 = .ok (.imul, 1) := by decide +kernel
theorem dX9_may_22 : decode cX9_may 22 = .ok (.iload_n 1, 1) := by decide +kernel
theorem dX9_may_23 : decode cX9_may 23 = .ok (.iadd, 1) := by decide +kernel
theorem dX9_may_24 : decode cX9_may 24 = .ok (.iaload, 1) := by decide +kernel
theorem dX9_may_25 : decode cX9_may 25 = .ok (.ifCond .lt 7, 3) := by decide +kernel
theorem dX9_may_28 : decode cX9_may 28 = .ok (.iconst 1, 1) := by decide +kernel
theorem dX9_may_29 : decode cX9_may 29 = .ok (.goto 4, 3) := by decide +kernel
theorem dX9_may_32 : decode cX9_may 32 = .ok (.iconst 0, 1) := by decide +kernel
theorem dX9_may_33 : decode cX9_may 33 = .ok (.ireturn, 1) := by decide +kernel
theorem dX9_worn_0 : decode cX9_worn 0 = .ok (.aload_n 0, 1) := by decide +kernel
theorem dX9_worn_1 : decode cX9_worn 1 = .ok (.getfield 16, 3) := by decide +kernel
theorem dX9_worn_4 : decode cX9_worn 4 = .ok (.bipush 40, 2) := by decide +kernel
theorem dX9_worn_6 : decode cX9_worn 6 = .ok (.iload_n 1, 1) := by decide +kernel
theorem dX9_worn_7 : decode cX9_worn 7 = .ok (.imul, 1) := by decide +kernel
theorem dX9_worn_8 : decode cX9_worn 8 = .ok (.aload_n 0, 1) := by decide +kernel
theorem dX9_worn_9 : decode cX9_worn 9 = .ok (.getfield 61, 3) := by decide +kernel
theorem dX9_worn_12 : decode cX9_worn 12 = .ok (.bipush 40, 2) := by decide +kernel
theorem dX9_worn_14 : decode cX9_worn 14 = .ok (.iload_n 1, 1) := by decide +kernel
theorem dX9_worn_15 : decode cX9_worn 15 = .ok (.imul, 1) := by decide +kernel
theorem dX9_worn_16 : decode cX9_worn 16 = .ok (.iload_n 2, 1) := by decide +kernel
theorem dX9_worn_17 : decode cX9_worn 17 = .ok (.iadd, 1) := by decide +kernel
theorem dX9_worn_18 : decode cX9_worn 18 = .ok (.iaload, 1) := by decide +kernel
theorem dX9_worn_19 : decode cX9_worn 19 = .ok (.iadd, 1) := by decide +kernel
theorem dX9_worn_20 : decode cX9_worn 20 = .ok (.iaload, 1) := by decide +kernel
theorem dX9_worn_21 : decode cX9_worn 21 = .ok (.ireturn, 1) := by decide +kernel
theorem dX9_view_0 : decode cX9_view 0 = .ok (.aload_n 0, 1) := by decide +kernel
theorem dX9_view_1 : decode cX9_view 1 = .ok (.getfield 19, 3) := by decide +kernel
theorem dX9_view_4 : decode cX9_view 4 = .ok (.bipush 40, 2) := by decide +kernel
theorem dX9_view_6 : decode cX9_view 6 = .ok (.iload_n 1, 1) := by decide +kernel
theorem dX9_view_7 : decode cX9_view 7 = .ok (.imul, 1) := by decide +kernel
theorem dX9_view_8 : decode cX9_view 8 = .ok (.aload_n 0, 1) := by decide +kernel
theorem dX9_view_9 : decode cX9_view 9 = .ok (.getfield 61, 3) := by decide +kernel
theorem dX9_view_12 : decode cX9_view 12 = .ok (.bipush 40, 2) := by decide +kernel
theorem dX9_view_14 : decode cX9_view 14 = .ok (.iload_n 1, 1) := by decide +kernel
theorem dX9_view_15 : decode cX9_view 15 = .ok (.imul, 1) := by decide +kernel
theorem dX9_view_16 : decode cX9_view 16 = .ok (.iload_n 2, 1) := by decide +kernel
theorem dX9_view_17 : decode cX9_view 17 = .ok (.iadd, 1) := by decide +kernel
theorem dX9_view_18 : decode cX9_view 18 = .ok (.iaload, 1) := by decide +kernel
theorem dX9_view_19 : decode cX9_view 19 = .ok (.iadd, 1) := by decide +kernel
theorem dX9_view_20 : decode cX9_view 20 = .ok (.iaload, 1) := by decide +kernel
theorem dX9_view_21 : decode cX9_view 21 = .ok (.ireturn, 1) := by decide +kernel
theorem dX9_between_0 : decode cX9_between 0 = .ok (.iload_n 2, 1) := by decide +kernel
theorem dX9_between_1 : decode cX9_between 1 = .ok (.bipush 6, 2) := by decide +kernel
theorem dX9_between_3 : decode cX9_between 3 = .ok (.if_icmp .eq 26, 3) := by decide +kernel
theorem dX9_between_6 : decode cX9_between 6 = .ok (.iload_n 3, 1) := by decide +kernel
theorem dX9_between_7 : decode cX9_between 7 = .ok (.bipush 6, 2) := by decide +kernel
theorem dX9_between_9 : decode cX9_between 9 = .ok (.if_icmp .eq 20, 3) := by decide +kernel
theorem dX9_between_12 : decode cX9_between 12 = .ok (.aload_n 0, 1) := by decide +kernel
theorem dX9_between_13 : decode cX9_between 13 = .ok (.getfield 22, 3) := by decide +kernel
theorem dX9_between_16 : decode cX9_between 16 = .ok (.iload_n 1, 1) := by decide +kernel
theorem dX9_between_17 : decode cX9_between 17 = .ok (.iaload, 1) := by decide +kernel
theorem dX9_between_18 : decode cX9_between 18 = .ok (.aload_n 0, 1) := by decide +kernel
theorem dX9_between_19 : decode cX9_between 19 = .ok (.getfield 22, 3) := by decide +kernel
theorem dX9_between_22 : decode cX9_between 22 = .ok (.iload_n 1, 1) := by decide +kernel
theorem dX9_between_23 : decode cX9_between 23 = .ok (.iconst 1, 1) := by decide +kernel
theorem dX9_between_24 : decode cX9_between 24 = .ok (.iadd, 1) := by decide +kernel
theorem dX9_between_25 : decode cX9_between 25 = .ok (.iaload, 1) := by decide +kernel
theorem dX9_between_26 : decode cX9_between 26 = .ok (.if_icmp .eq 5, 3) := by decide +kernel
theorem dX9_between_29 : decode cX9_between 29 = .ok (.iconst 0, 1) := by decide +kernel
theorem dX9_between_30 : decode cX9_between 30 = .ok (.ireturn, 1) := by decide +kernel
theorem dX9_between_31 : decode cX9_between 31 = .ok (.iload_n 2, 1) := by decide +kernel
theorem dX9_between_32 : decode cX9_between 32 = .ok (.iload_n 3, 1) := by decide +kernel
theorem dX9_between_33 : decode cX9_between 33 = .ok (.if_icmp .ne 7, 3) := by decide +kernel
theorem dX9_between_36 : decode cX9_between 36 = .ok (.iconst 0, 1) := by decide +kernel
theorem dX9_between_37 : decode cX9_between 37 = .ok (.goto 9, 3) := by decide +kernel
theorem dX9_between_40 : decode cX9_between 40 = .ok (.aload_n 0, 1) := by decide +kernel
theorem dX9_between_41 : decode cX9_between 41 = .ok (.getfield 25, 3) := by decide +kernel
theorem dX9_between_44 : decode cX9_between 44 = .ok (.iconst 2, 1) := by decide +kernel
theorem dX9_between_45 : decode cX9_between 45 = .ok (.iaload, 1) := by decide +kernel
theorem dX9_between_46 : decode cX9_between 46 = .ok (.aload_n 0, 1) := by decide +kernel
theorem dX9_between_47 : decode cX9_between 47 = .ok (.iload_n 2, 1) := by decide +kernel
theorem dX9_between_48 : decode cX9_between 48 = .ok (.iload_n 1, 1) := by decide +kernel
theorem dX9_between_49 : decode cX9_between 49 = .ok (.invokevirtual 115, 3) := by decide +kernel
theorem dX9_between_52 : decode cX9_between 52 = .ok (.aload_n 0, 1) := by decide +kernel
theorem dX9_between_53 : decode cX9_between 53 = .ok (.iload_n 3, 1) := by decide +kernel
theorem dX9_between_54 : decode cX9_between 54 = .ok (.iload_n 1, 1) := by decide +kernel
theorem dX9_between_55 : decode cX9_between 55 = .ok (.iconst 1, 1) := by decide +kernel
theorem dX9_between_56 : decode cX9_between 56 = .ok (.iadd, 1) := by decide +kernel
theorem dX9_between_57 : decode cX9_between 57 = .ok (.invokevirtual 115, 3) := by decide +kernel
theorem dX9_between_60 : decode cX9_between 60 = .ok (.if_icmp .ne 7, 3) := by decide +kernel
theorem dX9_between_63 : decode cX9_between 63 = .ok (.iconst 0, 1) := by decide +kernel
theorem dX9_between_64 : decode cX9_between 64 = .ok (.goto 9, 3) := by decide +kernel
theorem dX9_between_67 : decode cX9_between 67 = .ok (.aload_n 0, 1) := by decide +kernel
theorem dX9_between_68 : decode cX9_between 68 = .ok (.getfield 25, 3) := by decide +kernel
theorem dX9_between_71 : decode cX9_between 71 = .ok (.iconst 3, 1) := by decide +kernel
theorem dX9_between_72 : decode cX9_between 72 = .ok (.iaload, 1) := by decide +kernel
theorem dX9_between_73 : decode cX9_between 73 = .ok (.iadd, 1) := by decide +kernel
theorem dX9_between_74 : decode cX9_between 74 = .ok (.ireturn, 1) := by decide +kernel
theorem dX9_own_0 : decode cX9_own 0 = .ok (.iload_n 2, 1) := by decide +kernel
theorem dX9_own_1 : decode cX9_own 1 = .ok (.bipush 6, 2) := by decide +kernel
theorem dX9_own_3 : decode cX9_own 3 = .ok (.if_icmp .ne 12, 3) := by decide +kernel
theorem dX9_own_6 : decode cX9_own 6 = .ok (.aload_n 0, 1) := by decide +kernel
theorem dX9_own_7 : decode cX9_own 7 = .ok (.getfield 25, 3) := by decide +kernel
theorem dX9_own_10 : decode cX9_own 10 = .ok (.iconst 1, 1) := by decide +kernel
theorem dX9_own_11 : decode cX9_own 11 = .ok (.iaload, 1) := by decide +kernel
theorem dX9_own_12 : decode cX9_own 12 = .ok (.goto 9, 3) := by decide +kernel
theorem dX9_own_15 : decode cX9_own 15 = .ok (.aload_n 0, 1) := by decide +kernel
theorem dX9_own_16 : decode cX9_own 16 = .ok (.iload_n 2, 1) := by decide +kernel
theorem dX9_own_17 : decode cX9_own 17 = .ok (.iload_n 1, 1) := by decide +kernel
theorem dX9_own_18 : decode cX9_own 18 = .ok (.invokevirtual 119, 3) := by decide +kernel
theorem dX9_own_21 : decode cX9_own 21 = .ok (.ireturn, 1) := by decide +kernel
theorem dX9_rest_0 : decode cX9_rest 0 = .ok (.ldc 122, 2) := by decide +kernel
theorem dX9_rest_2 : decode cX9_rest 2 = .ok (.istore_n 3, 1) := by decide +kernel
theorem dX9_rest_3 : decode cX9_rest 3 = .ok (.iconst 0, 1) := by decide +kernel
theorem dX9_rest_4 : decode cX9_rest 4 = .ok (.istore 4, 2) := by decide +kernel
theorem dX9_rest_6 : decode cX9_rest 6 = .ok (.iload 4, 2) := by decide +kernel
theorem dX9_rest_8 : decode cX9_rest 8 = .ok (.bipush 6, 2) := by decide +kernel
theorem dX9_rest_10 : decode cX9_rest 10 = .ok (.if_icmp .gt 72, 3) := by decide +kernel
theorem dX9_rest_13 : decode cX9_rest 13 = .ok (.iload_n 1, 1) := by decide +kernel
theorem dX9_rest_14 : decode cX9_rest 14 = .ok (.iconst 1, 1) := by decide +kernel
theorem dX9_rest_15 : decode cX9_rest 15 = .ok (.iadd, 1) := by decide +kernel
theorem dX9_rest_16 : decode cX9_rest 16 = .ok (.aload_n 0, 1) := by decide +kernel
theorem dX9_rest_17 : decode cX9_rest 17 = .ok (.getfield 7, 3) := by decide +kernel
theorem dX9_rest_20 : decode cX9_rest 20 = .ok (.bipush 6, 2) := by decide +kernel
theorem dX9_rest_22 : decode cX9_rest 22 = .ok (.iaload, 1) := by decide +kernel
theorem dX9_rest_23 : decode cX9_rest 23 = .ok (.if_icmp .ge 59, 3) := by decide +kernel
theorem dX9_rest_26 : decode cX9_rest 26 = .ok (.aload_n 0, 1) := by decide +kernel
theorem dX9_rest_27 : decode cX9_rest 27 = .ok (.iload_n 1, 1) := by decide +kernel
theorem dX9_rest_28 : decode cX9_rest 28 = .ok (.iconst 1, 1) := by decide +kernel
theorem dX9_rest_29 : decode cX9_rest 29 = .ok (.iadd, 1) := by decide +kernel
theorem dX9_rest_30 : decode cX9_rest 30 = .ok (.iload 4, 2) := by decide +kernel
theorem dX9_rest_32 : decode cX9_rest 32 = .ok (.invokevirtual 123, 3) := by decide +kernel
theorem dX9_rest_35 : decode cX9_rest 35 = .ok (.ifCond .eq 41, 3) := by decide +kernel
theorem dX9_rest_38 : decode cX9_rest 38 = .ok (.aload_n 0, 1) := by decide +kernel
theorem dX9_rest_39 : decode cX9_rest 39 = .ok (.getfield 64, 3) := by decide +kernel
theorem dX9_rest_42 : decode cX9_rest 42 = .ok (.bipush 7, 2) := by decide +kernel
theorem dX9_rest_44 : decode cX9_rest 44 = .ok (.iload_n 1, 1) := by decide +kernel
theorem dX9_rest_45 : decode cX9_rest 45 = .ok (.iconst 1, 1) := by decide +kernel
theorem dX9_rest_46 : decode cX9_rest 46 = .ok (.iadd, 1) := by decide +kernel
theorem dX9_rest_47 : decode cX9_rest 47 = .ok (.imul, 1) := by decide +kernel
theorem dX9_rest_48 : decode cX9_rest 48 = .ok (.iload 4, 2) := by decide +kernel
theorem dX9_rest_50 : decode cX9_rest 50 = .ok (.iadd, 1) := by decide +kernel
theorem dX9_rest_51 : decode cX9_rest 51 = .ok (.iaload, 1) := by decide +kernel
theorem dX9_rest_52 : decode cX9_rest 52 = .ok (.aload_n 0, 1) := by decide +kernel
theorem dX9_rest_53 : decode cX9_rest 53 = .ok (.iload_n 1, 1) := by decide +kernel
theorem dX9_rest_54 : decode cX9_rest 54 = .ok (.iload_n 2, 1) := by decide +kernel
theorem dX9_rest_55 : decode cX9_rest 55 = .ok (.iload 4, 2) := by decide +kernel
theorem dX9_rest_57 : decode cX9_rest 57 = .ok (.invokevirtual 126, 3) := by decide +kernel
theorem dX9_rest_60 : decode cX9_rest 60 = .ok (.iadd, 1) := by decide +kernel
theorem dX9_rest_61 : decode cX9_rest 61 = .ok (.istore 5, 2) := by decide +kernel
theorem dX9_rest_63 : decode cX9_rest 63 = .ok (.iload 5, 2) := by decide +kernel
theorem dX9_rest_65 : decode cX9_rest 65 = .ok (.iload_n 3, 1) := by decide +kernel
theorem dX9_rest_66 : decode cX9_rest 66 = .ok (.if_icmp .ge 8, 3) := by decide +kernel
theorem dX9_rest_69 : decode cX9_rest 69 = .ok (.iload 5, 2) := by decide +kernel
theorem dX9_rest_71 : decode cX9_rest 71 = .ok (.goto 4, 3) := by decide +kernel
theorem dX9_rest_74 : decode cX9_rest 74 = .ok (.iload_n 3, 1) := by decide +kernel
theorem dX9_rest_75 : decode cX9_rest 75 = .ok (.istore_n 3, 1) := by decide +kernel
theorem dX9_rest_76 : decode cX9_rest 76 = .ok (.iinc 4 1, 3) := by decide +kernel
theorem dX9_rest_79 : decode cX9_rest 79 = .ok (.goto (-73), 3) := by decide +kernel
theorem dX9_rest_82 : decode cX9_rest 82 = .ok (.iload_n 1, 1) := by decide +kernel
theorem dX9_rest_83 : decode cX9_rest 83 = .ok (.iconst 1, 1) := by decide +kernel
theorem dX9_rest_84 : decode cX9_rest 84 = .ok (.iadd, 1) := by decide +kernel
theorem dX9_rest_85 : decode cX9_rest 85 = .ok (.aload_n 0, 1) := by decide +kernel
theorem dX9_rest_86 : decode cX9_rest 86 = .ok (.getfield 7, 3) := by decide +kernel
theorem dX9_rest_89 : decode cX9_rest 89 = .ok (.bipush 6, 2) := by decide +kernel
theorem dX9_rest_91 : decode cX9_rest 91 = .ok (.iaload, 1) := by decide +kernel
theorem dX9_rest_92 : decode cX9_rest 92 = .ok (.if_icmp .ne 7, 3) := by decide +kernel
theorem dX9_rest_95 : decode cX9_rest 95 = .ok (.iconst 0, 1) := by decide +kernel
theorem dX9_rest_96 : decode cX9_rest 96 = .ok (.goto 4, 3) := by decide +kernel
theorem dX9_rest_99 : decode cX9_rest 99 = .ok (.iload_n 3, 1) := by decide +kernel
theorem dX9_rest_100 : decode cX9_rest 100 = .ok (.ireturn, 1) := by decide +kernel
theorem dX9_wholes_0 : decode cX9_wholes 0 = .ok (.aload_n 0, 1) := by decide +kernel
theorem dX9_wholes_1 : decode cX9_wholes 1 = .ok (.invokevirtual 112, 3) := by decide +kernel
theorem dX9_wholes_4 : decode cX9_wholes 4 = .ok (.aload_n 0, 1) := by decide +kernel
theorem dX9_wholes_5 : decode cX9_wholes 5 = .ok (.getfield 7, 3) := by decide +kernel
theorem dX9_wholes_8 : decode cX9_wholes 8 = .ok (.bipush 6, 2) := by decide +kernel
theorem dX9_wholes_10 : decode cX9_wholes 10 = .ok (.iaload, 1) := by decide +kernel
theorem dX9_wholes_11 : decode cX9_wholes 11 = .ok (.istore_n 1, 1) := by decide +kernel
theorem dX9_wholes_12 : decode cX9_wholes 12 = .ok (.iload_n 1, 1) := by decide +kernel
theorem dX9_wholes_13 : decode cX9_wholes 13 = .ok (.iconst 1, 1) := by decide +kernel
theorem dX9_wholes_14 : decode cX9_wholes 14 = .ok (.isub, 1) := by decide +kernel
theorem dX9_wholes_15 : decode cX9_wholes 15 = .ok (.istore_n 2, 1) := by decide +kernel
theorem dX9_wholes_16 : decode cX9_wholes 16 = .ok (.iload_n 2, 1) := by decide +kernel
theorem dX9_wholes_17 : decode cX9_wholes 17 = .ok (.ifCond .lt 61, 3) := by decide +kernel
theorem dX9_wholes_20 : decode cX9_wholes 20 = .ok (.iconst 0, 1) := by decide +kernel
theorem dX9_wholes_21 : decode cX9_wholes 21 = .ok (.istore_n 3, 1) := by decide +kernel
theorem dX9_wholes_22 : decode cX9_wholes 22 = .ok (.iload_n 3, 1) := by decide +kernel
theorem dX9_wholes_23 : decode cX9_wholes 23 = .ok (.bipush 6, 2) := by decide +kernel
theorem dX9_wholes_25 : decode cX9_wholes 25 = .ok (.if_icmp .gt 47, 3) := by decide +kernel
theorem dX9_wholes_28 : decode cX9_wholes 28 = .ok (.aload_n 0, 1) := by decide +kernel
theorem dX9_wholes_29 : decode cX9_wholes 29 = .ok (.getfield 64, 3) := by decide +kernel
theorem dX9_wholes_32 : decode cX9_wholes 32 = .ok (.bipush 7, 2) := by decide +kernel
theorem dX9_wholes_34 : decode cX9_wholes 34 = .ok (.iload_n 2, 1) := by decide +kernel
theorem dX9_wholes_35 : decode cX9_wholes 35 = .ok (.imul, 1) := by decide +kernel
theorem dX9_wholes_36 : decode cX9_wholes 36 = .ok (.iload_n 3, 1) := by decide +kernel
theorem dX9_wholes_37 : decode cX9_wholes 37 = .ok (.iadd, 1) := by decide +kernel
theorem dX9_wholes_38 : decode cX9_wholes 38 = .ok (.aload_n 0, 1) := by decide +kernel
theorem dX9_wholes_39 : decode cX9_wholes 39 = .ok (.iload_n 2, 1) := by decide +kernel
theorem dX9_wholes_40 : decode cX9_wholes 40 = .ok (.iload_n 3, 1) := by decide +kernel
theorem dX9_wholes_41 : decode cX9_wholes 41 = .ok (.invokevirtual 123, 3) := by decide +kernel
theorem dX9_wholes_44 : decode cX9_wholes 44 = .ok (.ifCond .eq 19, 3) := by decide +kernel
theorem dX9_wholes_47 : decode cX9_wholes 47 = .ok (.aload_n 0, 1) := by decide +kernel
theorem dX9_wholes_48 : decode cX9_wholes 48 = .ok (.iload_n 2, 1) := by decide +kernel
theorem dX9_wholes_49 : decode cX9_wholes 49 = .ok (.iload_n 3, 1) := by decide +kernel
theorem dX9_wholes_50 : decode cX9_wholes 50 = .ok (.invokevirtual 130, 3) := by decide +kernel
theorem dX9_wholes_53 : decode cX9_wholes 53 = .ok (.aload_n 0, 1) := by decide +kernel
theorem dX9_wholes_54 : decode cX9_wholes 54 = .ok (.iload_n 2, 1) := by decide +kernel
theorem dX9_wholes_55 : decode cX9_wholes 55 = .ok (.iload_n 3, 1) := by decide +kernel
theorem dX9_wholes_56 : decode cX9_wholes 56 = .ok (.invokevirtual 133, 3) := by decide +kernel
theorem dX9_wholes_59 : decode cX9_wholes 59 = .ok (.iadd, 1) := by decide +kernel
theorem dX9_wholes_60 : decode cX9_wholes 60 = .ok (.goto 5, 3) := by decide +kernel
theorem dX9_wholes_63 : decode cX9_wholes 63 = .ok (.ldc 122, 2) := by decide +kernel
theorem dX9_wholes_65 : decode cX9_wholes 65 = .ok (.iastore, 1) := by decide +kernel
theorem dX9_wholes_66 : decode cX9_wholes 66 = .ok (.iinc 3 1, 3) := by decide +kernel
theorem dX9_wholes_69 : decode cX9_wholes 69 = .ok (.goto (-47), 3) := by decide +kernel
theorem dX9_wholes_72 : decode cX9_wholes 72 = .ok (.iinc 2 (-1), 3) := by decide +kernel
theorem dX9_wholes_75 : decode cX9_wholes 75 = .ok (.goto (-59), 3) := by decide +kernel
theorem dX9_wholes_78 : decode cX9_wholes 78 = .ok (.iconst 0, 1) := by decide +kernel
theorem dX9_wholes_79 : decode cX9_wholes 79 = .ok (.istore_n 2, 1) := by decide +kernel
theorem dX9_wholes_80 : decode cX9_wholes 80 = .ok (.iconst 0, 1) := by decide +kernel
theorem dX9_wholes_81 : decode cX9_wholes 81 = .ok (.istore_n 3, 1) := by decide +kernel
theorem dX9_wholes_82 : decode cX9_wholes 82 = .ok (.iload_n 3, 1) := by decide +kernel
theorem dX9_wholes_83 : decode cX9_wholes 83 = .ok (.iload_n 1, 1) := by decide +kernel
theorem dX9_wholes_84 : decode cX9_wholes 84 = .ok (.if_icmp .ge 114, 3) := by decide +kernel
theorem dX9_wholes_87 : decode cX9_wholes 87 = .ok (.ldc 122, 2) := by decide +kernel
theorem dX9_wholes_89 : decode cX9_wholes 89 = .ok (.istore 4, 2) := by decide +kernel
theorem dX9_wholes_91 : decode cX9_wholes 91 = .ok (.iconst 0, 1) := by decide +kernel
theorem dX9_wholes_92 : decode cX9_wholes 92 = .ok (.istore 5, 2) := by decide +kernel
theorem dX9_wholes_94 : decode cX9_wholes 94 = .ok (.iload 5, 2) := by decide +kernel
theorem dX9_wholes_96 : decode cX9_wholes 96 = .ok (.bipush 6, 2) := by decide +kernel
theorem dX9_wholes_98 : decode cX9_wholes 98 = .ok (.if_icmp .gt 83, 3) := by decide +kernel
theorem dX9_wholes_101 : decode cX9_wholes 101 = .ok (.aload_n 0, 1) := by decide +kernel
theorem dX9_wholes_102 : decode cX9_wholes 102 = .ok (.iload_n 3, 1) := by decide +kernel
theorem dX9_wholes_103 : decode cX9_wholes 103 = .ok (.iload 5, 2) := by decide +kernel
theorem dX9_wholes_105 : decode cX9_wholes 105 = .ok (.invokevirtual 123, 3) := by decide +kernel
theorem dX9_wholes_108 : decode cX9_wholes 108 = .ok (.ifCond .eq 44, 3) := by decide +kernel
theorem dX9_wholes_111 : decode cX9_wholes 111 = .ok (.aload_n 0, 1) := by decide +kernel
theorem dX9_wholes_112 : decode cX9_wholes 112 = .ok (.getfield 64, 3) := by decide +kernel
theorem dX9_wholes_115 : decode cX9_wholes 115 = .ok (.bipush 7, 2) := by decide +kernel
theorem dX9_wholes_117 : decode cX9_wholes 117 = .ok (.iload_n 3, 1) := by decide +kernel
theorem dX9_wholes_118 : decode cX9_wholes 118 = .ok (.imul, 1) := by decide +kernel
theorem dX9_wholes_119 : decode cX9_wholes 119 = .ok (.iload 5, 2) := by decide +kernel
theorem dX9_wholes_121 : decode cX9_wholes 121 = .ok (.iadd, 1) := by decide +kernel
theorem dX9_wholes_122 : decode cX9_wholes 122 = .ok (.iaload, 1) := by decide +kernel
theorem dX9_wholes_123 : decode cX9_wholes 123 = .ok (.iload_n 3, 1) := by decide +kernel
theorem dX9_wholes_124 : decode cX9_wholes 124 = .ok (.ifCond .ne 7, 3) := by decide +kernel
theorem dX9_wholes_127 : decode cX9_wholes 127 = .ok (.iconst 0, 1) := by decide +kernel
theorem dX9_wholes_128 : decode cX9_wholes 128 = .ok (.goto 20, 3) := by decide +kernel
theorem dX9_wholes_131 : decode cX9_wholes 131 = .ok (.aload_n 0, 1) := by decide +kernel
theorem dX9_wholes_132 : decode cX9_wholes 132 = .ok (.iload_n 3, 1) := by decide +kernel
theorem dX9_wholes_133 : decode cX9_wholes 133 = .ok (.iconst 1, 1) := by decide +kernel
theorem dX9_wholes_134 : decode cX9_wholes 134 = .ok (.isub, 1) := by decide +kernel
theorem dX9_wholes_135 : decode cX9_wholes 135 = .ok (.aload_n 0, 1) := by decide +kernel
theorem dX9_wholes_136 : decode cX9_wholes 136 = .ok (.getfield 67, 3) := by decide +kernel
theorem dX9_wholes_139 : decode cX9_wholes 139 = .ok (.iload_n 3, 1) := by decide +kernel
theorem dX9_wholes_140 : decode cX9_wholes 140 = .ok (.iconst 1, 1) := by decide +kernel
theorem dX9_wholes_141 : decode cX9_wholes 141 = .ok (.isub, 1) := by decide +kernel
theorem dX9_wholes_142 : decode cX9_wholes 142 = .ok (.iaload, 1) := by decide +kernel
theorem dX9_wholes_143 : decode cX9_wholes 143 = .ok (.iload 5, 2) := by decide +kernel
theorem dX9_wholes_145 : decode cX9_wholes 145 = .ok (.invokevirtual 126, 3) := by decide +kernel
theorem dX9_wholes_148 : decode cX9_wholes 148 = .ok (.iadd, 1) := by decide +kernel
theorem dX9_wholes_149 : decode cX9_wholes 149 = .ok (.goto 5, 3) := by decide +kernel
theorem dX9_wholes_152 : decode cX9_wholes 152 = .ok (.ldc 122, 2) := by decide +kernel
theorem dX9_wholes_154 : decode cX9_wholes 154 = .ok (.istore 6, 2) := by decide +kernel
theorem dX9_wholes_156 : decode cX9_wholes 156 = .ok (.iload 6, 2) := by decide +kernel
theorem dX9_wholes_158 : decode cX9_wholes 158 = .ok (.iload 4, 2) := by decide +kernel
theorem dX9_wholes_160 : decode cX9_wholes 160 = .ok (.if_icmp .ge 15, 3) := by decide +kernel
theorem dX9_wholes_163 : decode cX9_wholes 163 = .ok (.iload 6, 2) := by decide +kernel
theorem dX9_wholes_165 : decode cX9_wholes 165 = .ok (.istore 4, 2) := by decide +kernel
theorem dX9_wholes_167 : decode cX9_wholes 167 = .ok (.aload_n 0, 1) := by decide +kernel
theorem dX9_wholes_168 : decode cX9_wholes 168 = .ok (.getfield 67, 3) := by decide +kernel
theorem dX9_wholes_171 : decode cX9_wholes 171 = .ok (.iload_n 3, 1) := by decide +kernel
theorem dX9_wholes_172 : decode cX9_wholes 172 = .ok (.iload 5, 2) := by decide +kernel
theorem dX9_wholes_174 : decode cX9_wholes 174 = .ok (.iastore, 1) := by decide +kernel
theorem dX9_wholes_175 : decode cX9_wholes 175 = .ok (.iinc 5 1, 3) := by decide +kernel
theorem dX9_wholes_178 : decode cX9_wholes 178 = .ok (.goto (-84), 3) := by decide +kernel
theorem dX9_wholes_181 : decode cX9_wholes 181 = .ok (.iload_n 3, 1) := by decide +kernel
theorem dX9_wholes_182 : decode cX9_wholes 182 = .ok (.ifCond .ne 8, 3) := by decide +kernel
theorem dX9_wholes_185 : decode cX9_wholes 185 = .ok (.iload 4, 2) := by decide +kernel
theorem dX9_wholes_187 : decode cX9_wholes 187 = .ok (.goto 4, 3) := by decide +kernel
theorem dX9_wholes_190 : decode cX9_wholes 190 = .ok (.iload_n 2, 1) := by decide +kernel
theorem dX9_wholes_191 : decode cX9_wholes 191 = .ok (.istore_n 2, 1) := by decide +kernel
theorem dX9_wholes_192 : decode cX9_wholes 192 = .ok (.iinc 3 1, 3) := by decide +kernel
theorem dX9_wholes_195 : decode cX9_wholes 195 = .ok (.goto (-113), 3) := by decide +kernel
theorem dX9_wholes_198 : decode cX9_wholes 198 = .ok (.iload_n 2, 1) := by decide +kernel
theorem dX9_wholes_199 : decode cX9_wholes 199 = .ok (.ireturn, 1) := by decide +kernel
theorem dX9_whole_0 : decode cX9_whole 0 = .ok (.iload_n 1, 1) := by decide +kernel
theorem dX9_whole_1 : decode cX9_whole 1 = .ok (.iconst (-1), 1) := by decide +kernel
theorem dX9_whole_2 : decode cX9_whole 2 = .ok (.aload_n 0, 1) := by decide +kernel
theorem dX9_whole_3 : decode cX9_whole 3 = .ok (.getfield 7, 3) := by decide +kernel
theorem dX9_whole_6 : decode cX9_whole 6 = .ok (.bipush 6, 2) := by decide +kernel
theorem dX9_whole_8 : decode cX9_whole 8 = .ok (.iaload, 1) := by decide +kernel
theorem dX9_whole_9 : decode cX9_whole 9 = .ok (.iconst 1, 1) := by decide +kernel
theorem dX9_whole_10 : decode cX9_whole 10 = .ok (.isub, 1) := by decide +kernel
theorem dX9_whole_11 : decode cX9_whole 11 = .ok (.invokestatic 77, 3) := by decide +kernel
theorem dX9_whole_14 : decode cX9_whole 14 = .ok (.ifCond .ne 5, 3) := by decide +kernel
theorem dX9_whole_17 : decode cX9_whole 17 = .ok (.iconst (-1), 1) := by decide +kernel
theorem dX9_whole_18 : decode cX9_whole 18 = .ok (.ireturn, 1) := by decide +kernel
theorem dX9_whole_19 : decode cX9_whole 19 = .ok (.aload_n 0, 1) := by decide +kernel
theorem dX9_whole_20 : decode cX9_whole 20 = .ok (.invokevirtual 136, 3) := by decide +kernel
theorem dX9_whole_23 : decode cX9_whole 23 = .ok (.istore_n 2, 1) := by decide +kernel
theorem dX9_whole_24 : decode cX9_whole 24 = .ok (.iload_n 1, 1) := by decide +kernel
theorem dX9_whole_25 : decode cX9_whole 25 = .ok (.ifCond .ge 7, 3) := by decide +kernel
theorem dX9_whole_28 : decode cX9_whole 28 = .ok (.iload_n 2, 1) := by decide +kernel
theorem dX9_whole_29 : decode cX9_whole 29 = .ok (.goto 25, 3) := by decide +kernel
theorem dX9_whole_32 : decode cX9_whole 32 = .ok (.aload_n 0, 1) := by decide +kernel
theorem dX9_whole_33 : decode cX9_whole 33 = .ok (.getfield 67, 3) := by decide +kernel
theorem dX9_whole_36 : decode cX9_whole 36 = .ok (.iload_n 1, 1) := by decide +kernel
theorem dX9_whole_37 : decode cX9_whole 37 = .ok (.iaload, 1) := by decide +kernel
theorem dX9_whole_38 : decode cX9_whole 38 = .ok (.bipush 6, 2) := by decide +kernel
theorem dX9_whole_40 : decode cX9_whole 40 = .ok (.if_icmp .ne 8, 3) := by decide +kernel
theorem dX9_whole_43 : decode cX9_whole 43 = .ok (.bipush (-4), 2) := by decide +kernel
theorem dX9_whole_45 : decode cX9_whole 45 = .ok (.goto 9, 3) := by decide +kernel
theorem dX9_whole_48 : decode cX9_whole 48 = .ok (.aload_n 0, 1) := by decide +kernel
theorem dX9_whole_49 : decode cX9_whole 49 = .ok (.getfield 67, 3) := by decide +kernel
theorem dX9_whole_52 : decode cX9_whole 52 = .ok (.iload_n 1, 1) := by decide +kernel
theorem dX9_whole_53 : decode cX9_whole 53 = .ok (.iaload, 1) := by decide +kernel
theorem dX9_whole_54 : decode cX9_whole 54 = .ok (.ireturn, 1) := by decide +kernel
theorem dX9_about_0 : decode cX9_about 0 = .ok (.iload_n 1, 1) := by decide +kernel
theorem dX9_about_1 : decode cX9_about 1 = .ok (.iconst 0, 1) := by decide +kernel
theorem dX9_about_2 : decode cX9_about 2 = .ok (.iconst 2, 1) := by decide +kernel
theorem dX9_about_3 : decode cX9_about 3 = .ok (.invokestatic 77, 3) := by decide +kernel
theorem dX9_about_6 : decode cX9_about 6 = .ok (.ifCond .ne 5, 3) := by decide +kernel
theorem dX9_about_9 : decode cX9_about 9 = .ok (.iconst (-1), 1) := by decide +kernel
theorem dX9_about_10 : decode cX9_about 10 = .ok (.ireturn, 1) := by decide +kernel
theorem dX9_about_11 : decode cX9_about 11 = .ok (.aload_n 0, 1) := by decide +kernel
theorem dX9_about_12 : decode cX9_about 12 = .ok (.invokevirtual 136, 3) := by decide +kernel
theorem dX9_about_15 : decode cX9_about 15 = .ok (.pop, 1) := by decide +kernel
theorem dX9_about_16 : decode cX9_about 16 = .ok (.iconst 0, 1) := by decide +kernel
theorem dX9_about_17 : decode cX9_about 17 = .ok (.istore_n 2, 1) := by decide +kernel
theorem dX9_about_18 : decode cX9_about 18 = .ok (.iconst 0, 1) := by decide +kernel
theorem dX9_about_19 : decode cX9_about 19 = .ok (.istore_n 3, 1) := by decide +kernel
theorem dX9_about_20 : decode cX9_about 20 = .ok (.iload_n 3, 1) := by decide +kernel
theorem dX9_about_21 : decode cX9_about 21 = .ok (.aload_n 0, 1) := by decide +kernel
theorem dX9_about_22 : decode cX9_about 22 = .ok (.getfield 7, 3) := by decide +kernel
theorem dX9_about_25 : decode cX9_about 25 = .ok (.bipush 6, 2) := by decide +kernel
theorem dX9_about_27 : decode cX9_about 27 = .ok (.iaload, 1) := by decide +kernel
theorem dX9_about_28 : decode cX9_about 28 = .ok (.if_icmp .ge 154, 3) := by decide +kernel
theorem dX9_about_31 : decode cX9_about 31 = .ok (.iload_n 3, 1) := by decide +kernel
theorem dX9_about_32 : decode cX9_about 32 = .ok (.ifCond .le 48, 3) := by decide +kernel
theorem dX9_about_35 : decode cX9_about 35 = .ok (.aload_n 0, 1) := by decide +kernel
theorem dX9_about_36 : decode cX9_about 36 = .ok (.getfield 22, 3) := by decide +kernel
theorem dX9_about_39 : decode cX9_about 39 = .ok (.iload_n 3, 1) := by decide +kernel
theorem dX9_about_40 : decode cX9_about 40 = .ok (.iaload, 1) := by decide +kernel
theorem dX9_about_41 : decode cX9_about 41 = .ok (.aload_n 0, 1) := by decide +kernel
theorem dX9_about_42 : decode cX9_about 42 = .ok (.getfield 22, 3) := by decide +kernel
theorem dX9_about_45 : decode cX9_about 45 = .ok (.iload_n 3, 1) := by decide +kernel
theorem dX9_about_46 : decode cX9_about 46 = .ok (.iconst 1, 1) := by decide +kernel
theorem dX9_about_47 : decode cX9_about 47 = .ok (.isub, 1) := by decide +kernel
theorem dX9_about_48 : decode cX9_about 48 = .ok (.iaload, 1) := by decide +kernel
theorem dX9_about_49 : decode cX9_about 49 = .ok (.if_icmp .ne 31, 3) := by decide +kernel
theorem dX9_about_52 : decode cX9_about 52 = .ok (.aload_n 0, 1) := by decide +kernel
theorem dX9_about_53 : decode cX9_about 53 = .ok (.getfield 67, 3) := by decide +kernel
theorem dX9_about_56 : decode cX9_about 56 = .ok (.iload_n 3, 1) := by decide +kernel
theorem dX9_about_57 : decode cX9_about 57 = .ok (.iaload, 1) := by decide +kernel
theorem dX9_about_58 : decode cX9_about 58 = .ok (.bipush 6, 2) := by decide +kernel
theorem dX9_about_60 : decode cX9_about 60 = .ok (.if_icmp .eq 20, 3) := by decide +kernel
theorem dX9_about_63 : decode cX9_about 63 = .ok (.aload_n 0, 1) := by decide +kernel
theorem dX9_about_64 : decode cX9_about 64 = .ok (.getfield 67, 3) := by decide +kernel
theorem dX9_about_67 : decode cX9_about 67 = .ok (.iload_n 3, 1) := by decide +kernel
theorem dX9_about_68 : decode cX9_about 68 = .ok (.iconst 1, 1) := by decide +kernel
theorem dX9_about_69 : decode cX9_about 69 = .ok (.isub, 1) := by decide +kernel
theorem dX9_about_70 : decode cX9_about 70 = .ok (.iaload, 1) := by decide +kernel
theorem dX9_about_71 : decode cX9_about 71 = .ok (.bipush 6, 2) := by decide +kernel
theorem dX9_about_73 : decode cX9_about 73 = .ok (.if_icmp .eq 7, 3) := by decide +kernel
theorem dX9_about_76 : decode cX9_about 76 = .ok (.iconst 1, 1) := by decide +kernel
theorem dX9_about_77 : decode cX9_about 77 = .ok (.goto 4, 3) := by decide +kernel
theorem dX9_about_80 : decode cX9_about 80 = .ok (.iconst 0, 1) := by decide +kernel
theorem dX9_about_81 : decode cX9_about 81 = .ok (.istore 4, 2) := by decide +kernel
theorem dX9_about_83 : decode cX9_about 83 = .ok (.iload_n 1, 1) := by decide +kernel
theorem dX9_about_84 : decode cX9_about 84 = .ok (.ifCond .ne 25, 3) := by decide +kernel
theorem dX9_about_87 : decode cX9_about 87 = .ok (.iload_n 2, 1) := by decide +kernel
theorem dX9_about_88 : decode cX9_about 88 = .ok (.aload_n 0, 1) := by decide +kernel
theorem dX9_about_89 : decode cX9_about 89 = .ok (.getfield 67, 3) := by decide +kernel
theorem dX9_about_92 : decode cX9_about 92 = .ok (.iload_n 3, 1) := by decide +kernel
theorem dX9_about_93 : decode cX9_about 93 = .ok (.iaload, 1) := by decide +kernel
theorem dX9_about_94 : decode cX9_about 94 = .ok (.bipush 6, 2) := by decide +kernel
theorem dX9_about_96 : decode cX9_about 96 = .ok (.if_icmp .ne 7, 3) := by decide +kernel
theorem dX9_about_99 : decode cX9_about 99 = .ok (.iconst 1, 1) := by decide +kernel
theorem dX9_about_100 : decode cX9_about 100 = .ok (.goto 4, 3) := by decide +kernel
theorem dX9_about_103 : decode cX9_about 103 = .ok (.iconst 0, 1) := by decide +kernel
theorem dX9_about_104 : decode cX9_about 104 = .ok (.iadd, 1) := by decide +kernel
theorem dX9_about_105 : decode cX9_about 105 = .ok (.istore_n 2, 1) := by decide +kernel
theorem dX9_about_106 : decode cX9_about 106 = .ok (.goto 70, 3) := by decide +kernel
theorem dX9_about_109 : decode cX9_about 109 = .ok (.iload 4, 2) := by decide +kernel
theorem dX9_about_111 : decode cX9_about 111 = .ok (.ifCond .eq 65, 3) := by decide +kernel
theorem dX9_about_114 : decode cX9_about 114 = .ok (.iload_n 2, 1) := by decide +kernel
theorem dX9_about_115 : decode cX9_about 115 = .ok (.iload_n 1, 1) := by decide +kernel
theorem dX9_about_116 : decode cX9_about 116 = .ok (.iconst 1, 1) := by decide +kernel
theorem dX9_about_117 : decode cX9_about 117 = .ok (.if_icmp .ne 23, 3) := by decide +kernel
theorem dX9_about_120 : decode cX9_about 120 = .ok (.aload_n 0, 1) := by decide +kernel
theorem dX9_about_121 : decode cX9_about 121 = .ok (.getfield 67, 3) := by decide +kernel
theorem dX9_about_124 : decode cX9_about 124 = .ok (.iload_n 3, 1) := by decide +kernel
theorem dX9_about_125 : decode cX9_about 125 = .ok (.iaload, 1) := by decide +kernel
theorem dX9_about_126 : decode cX9_about 126 = .ok (.aload_n 0, 1) := by decide +kernel
theorem dX9_about_127 : decode cX9_about 127 = .ok (.getfield 67, 3) := by decide +kernel
theorem dX9_about_130 : decode cX9_about 130 = .ok (.iload_n 3, 1) := by decide +kernel
theorem dX9_about_131 : decode cX9_about 131 = .ok (.iconst 1, 1) := by decide +kernel
theorem dX9_about_132 : decode cX9_about 132 = .ok (.isub, 1) := by decide +kernel
theorem dX9_about_133 : decode cX9_about 133 = .ok (.iaload, 1) := by decide +kernel
theorem dX9_about_134 : decode cX9_about 134 = .ok (.if_icmp .eq 39, 3) := by decide +kernel
theorem dX9_about_137 : decode cX9_about 137 = .ok (.goto 32, 3) := by decide +kernel
theorem dX9_about_140 : decode cX9_about 140 = .ok (.aload_n 0, 1) := by decide +kernel
theorem dX9_about_141 : decode cX9_about 141 = .ok (.aload_n 0, 1) := by decide +kernel
theorem dX9_about_142 : decode cX9_about 142 = .ok (.getfield 67, 3) := by decide +kernel
theorem dX9_about_145 : decode cX9_about 145 = .ok (.iload_n 3, 1) := by decide +kernel
theorem dX9_about_146 : decode cX9_about 146 = .ok (.iaload, 1) := by decide +kernel
theorem dX9_about_147 : decode cX9_about 147 = .ok (.iload_n 3, 1) := by decide +kernel
theorem dX9_about_148 : decode cX9_about 148 = .ok (.invokevirtual 115, 3) := by decide +kernel
theorem dX9_about_151 : decode cX9_about 151 = .ok (.aload_n 0, 1) := by decide +kernel
theorem dX9_about_152 : decode cX9_about 152 = .ok (.aload_n 0, 1) := by decide +kernel
theorem dX9_about_153 : decode cX9_about 153 = .ok (.getfield 67, 3) := by decide +kernel
theorem dX9_about_156 : decode cX9_about 156 = .ok (.iload_n 3, 1) := by decide +kernel
theorem dX9_about_157 : decode cX9_about 157 = .ok (.iconst 1, 1) := by decide +kernel
theorem dX9_about_158 : decode cX9_about 158 = .ok (.isub, 1) := by decide +kernel
theorem dX9_about_159 : decode cX9_about 159 = .ok (.iaload, 1) := by decide +kernel
theorem dX9_about_160 : decode cX9_about 160 = .ok (.iload_n 3, 1) := by decide +kernel
theorem dX9_about_161 : decode cX9_about 161 = .ok (.iconst 1, 1) := by decide +kernel
theorem dX9_about_162 : decode cX9_about 162 = .ok (.isub, 1) := by decide +kernel
theorem dX9_about_163 : decode cX9_about 163 = .ok (.invokevirtual 115, 3) := by decide +kernel
theorem dX9_about_166 : decode cX9_about 166 = .ok (.if_icmp .eq 7, 3) := by decide +kernel
theorem dX9_about_169 : decode cX9_about 169 = .ok (.iconst 1, 1) := by decide +kernel
theorem dX9_about_170 : decode cX9_about 170 = .ok (.goto 4, 3) := by decide +kernel
theorem dX9_about_173 : decode cX9_about 173 = .ok (.iconst 0, 1) := by decide +kernel
theorem dX9_about_174 : decode cX9_about 174 = .ok (.iadd, 1) := by decide +kernel
theorem dX9_about_175 : decode cX9_about 175 = .ok (.istore_n 2, 1) := by decide +kernel
theorem dX9_about_176 : decode cX9_about 176 = .ok (.iinc 3 1, 3) := by decide +kernel
theorem dX9_about_179 : decode cX9_about 179 = .ok (.goto (-159), 3) := by decide +kernel
theorem dX9_about_182 : decode cX9_about 182 = .ok (.iload_n 2, 1) := by decide +kernel
theorem dX9_about_183 : decode cX9_about 183 = .ok (.ireturn, 1) := by decide +kernel
theorem dX9_mend_0 : decode cX9_mend 0 = .ok (.aload_n 0, 1) := by decide +kernel
theorem dX9_mend_1 : decode cX9_mend 1 = .ok (.iload_n 1, 1) := by decide +kernel
theorem dX9_mend_2 : decode cX9_mend 2 = .ok (.invokevirtual 109, 3) := by decide +kernel
theorem dX9_mend_5 : decode cX9_mend 5 = .ok (.ifCond .ne 5, 3) := by decide +kernel
theorem dX9_mend_8 : decode cX9_mend 8 = .ok (.iconst (-1), 1) := by decide +kernel
theorem dX9_mend_9 : decode cX9_mend 9 = .ok (.ireturn, 1) := by decide +kernel
theorem dX9_mend_10 : decode cX9_mend 10 = .ok (.aload_n 0, 1) := by decide +kernel
theorem dX9_mend_11 : decode cX9_mend 11 = .ok (.invokevirtual 136, 3) := by decide +kernel
theorem dX9_mend_14 : decode cX9_mend 14 = .ok (.pop, 1) := by decide +kernel
theorem dX9_mend_15 : decode cX9_mend 15 = .ok (.aload_n 0, 1) := by decide +kernel
theorem dX9_mend_16 : decode cX9_mend 16 = .ok (.getfield 67, 3) := by decide +kernel
theorem dX9_mend_19 : decode cX9_mend 19 = .ok (.iload_n 1, 1) := by decide +kernel
theorem dX9_mend_20 : decode cX9_mend 20 = .ok (.iaload, 1) := by decide +kernel
theorem dX9_mend_21 : decode cX9_mend 21 = .ok (.istore_n 2, 1) := by decide +kernel
theorem dX9_mend_22 : decode cX9_mend 22 = .ok (.iload_n 1, 1) := by decide +kernel
theorem dX9_mend_23 : decode cX9_mend 23 = .ok (.ifCond .eq 80, 3) := by decide +kernel
theorem dX9_mend_26 : decode cX9_mend 26 = .ok (.iload_n 1, 1) := by decide +kernel
theorem dX9_mend_27 : decode cX9_mend 27 = .ok (.aload_n 0, 1) := by decide +kernel
theorem dX9_mend_28 : decode cX9_mend 28 = .ok (.getfield 7, 3) := by decide +kernel
theorem dX9_mend_31 : decode cX9_mend 31 = .ok (.bipush 6, 2) := by decide +kernel
theorem dX9_mend_33 : decode cX9_mend 33 = .ok (.iaload, 1) := by decide +kernel
theorem dX9_mend_34 : decode cX9_mend 34 = .ok (.iconst 1, 1) := by decide +kernel
theorem dX9_mend_35 : decode cX9_mend 35 = .ok (.isub, 1) := by decide +kernel
theorem dX9_mend_36 : decode cX9_mend 36 = .ok (.if_icmp .eq 67, 3) := by decide +kernel
theorem dX9_mend_39 : decode cX9_mend 39 = .ok (.iload_n 2, 1) := by decide +kernel
theorem dX9_mend_40 : decode cX9_mend 40 = .ok (.bipush 6, 2) := by decide +kernel
theorem dX9_mend_42 : decode cX9_mend 42 = .ok (.if_icmp .eq 61, 3) := by decide +kernel
theorem dX9_mend_45 : decode cX9_mend 45 = .ok (.aload_n 0, 1) := by decide +kernel
theorem dX9_mend_46 : decode cX9_mend 46 = .ok (.getfield 67, 3) := by decide +kernel
theorem dX9_mend_49 : decode cX9_mend 49 = .ok (.iload_n 1, 1) := by decide +kernel
theorem dX9_mend_50 : decode cX9_mend 50 = .ok (.iconst 1, 1) := by decide +kernel
theorem dX9_mend_51 : decode cX9_mend 51 = .ok (.isub, 1) := by decide +kernel
theorem dX9_mend_52 : decode cX9_mend 52 = .ok (.iaload, 1) := by decide +kernel
theorem dX9_mend_53 : decode cX9_mend 53 = .ok (.iload_n 2, 1) := by decide +kernel
theorem dX9_mend_54 : decode cX9_mend 54 = .ok (.if_icmp .ne 49, 3) := by decide +kernel
theorem dX9_mend_57 : decode cX9_mend 57 = .ok (.aload_n 0, 1) := by decide +kernel
theorem dX9_mend_58 : decode cX9_mend 58 = .ok (.getfield 67, 3) := by decide +kernel
theorem dX9_mend_61 : decode cX9_mend 61 = .ok (.iload_n 1, 1) := by decide +kernel
theorem dX9_mend_62 : decode cX9_mend 62 = .ok (.iconst 1, 1) := by decide +kernel
theorem dX9_mend_63 : decode cX9_mend 63 = .ok (.iadd, 1) := by decide +kernel
theorem dX9_mend_64 : decode cX9_mend 64 = .ok (.iaload, 1) := by decide +kernel
theorem dX9_mend_65 : decode cX9_mend 65 = .ok (.iload_n 2, 1) := by decide +kernel
theorem dX9_mend_66 : decode cX9_mend 66 = .ok (.if_icmp .ne 37, 3) := by decide +kernel
theorem dX9_mend_69 : decode cX9_mend 69 = .ok (.aload_n 0, 1) := by decide +kernel
theorem dX9_mend_70 : decode cX9_mend 70 = .ok (.getfield 22, 3) := by decide +kernel
theorem dX9_mend_73 : decode cX9_mend 73 = .ok (.iload_n 1, 1) := by decide +kernel
theorem dX9_mend_74 : decode cX9_mend 74 = .ok (.iconst 1, 1) := by decide +kernel
theorem dX9_mend_75 : decode cX9_mend 75 = .ok (.isub, 1) := by decide +kernel
theorem dX9_mend_76 : decode cX9_mend 76 = .ok (.iaload, 1) := by decide +kernel
theorem dX9_mend_77 : decode cX9_mend 77 = .ok (.aload_n 0, 1) := by decide +kernel
theorem dX9_mend_78 : decode cX9_mend 78 = .ok (.getfield 22, 3) := by decide +kernel
theorem dX9_mend_81 : decode cX9_mend 81 = .ok (.iload_n 1, 1) := by decide +kernel
theorem dX9_mend_82 : decode cX9_mend 82 = .ok (.iaload, 1) := by decide +kernel
theorem dX9_mend_83 : decode cX9_mend 83 = .ok (.if_icmp .ne 20, 3) := by decide +kernel
theorem dX9_mend_86 : decode cX9_mend 86 = .ok (.aload_n 0, 1) := by decide +kernel
theorem dX9_mend_87 : decode cX9_mend 87 = .ok (.getfield 22, 3) := by decide +kernel
theorem dX9_mend_90 : decode cX9_mend 90 = .ok (.iload_n 1, 1) := by decide +kernel
theorem dX9_mend_91 : decode cX9_mend 91 = .ok (.iconst 1, 1) := by decide +kernel
theorem dX9_mend_92 : decode cX9_mend 92 = .ok (.iadd, 1) := by decide +kernel
theorem dX9_mend_93 : decode cX9_mend 93 = .ok (.iaload, 1) := by decide +kernel
theorem dX9_mend_94 : decode cX9_mend 94 = .ok (.aload_n 0, 1) := by decide +kernel
theorem dX9_mend_95 : decode cX9_mend 95 = .ok (.getfield 22, 3) := by decide +kernel
theorem dX9_mend_98 : decode cX9_mend 98 = .ok (.iload_n 1, 1) := by decide +kernel
theorem dX9_mend_99 : decode cX9_mend 99 = .ok (.iaload, 1) := by decide +kernel
theorem dX9_mend_100 : decode cX9_mend 100 = .ok (.if_icmp .eq 6, 3) := by decide +kernel
theorem dX9_mend_103 : decode cX9_mend 103 = .ok (.bipush (-2), 2) := by decide +kernel
theorem dX9_mend_105 : decode cX9_mend 105 = .ok (.ireturn, 1) := by decide +kernel
theorem dX9_mend_106 : decode cX9_mend 106 = .ok (.aload_n 0, 1) := by decide +kernel
theorem dX9_mend_107 : decode cX9_mend 107 = .ok (.iload_n 2, 1) := by decide +kernel
theorem dX9_mend_108 : decode cX9_mend 108 = .ok (.iload_n 1, 1) := by decide +kernel
theorem dX9_mend_109 : decode cX9_mend 109 = .ok (.iconst 1, 1) := by decide +kernel
theorem dX9_mend_110 : decode cX9_mend 110 = .ok (.isub, 1) := by decide +kernel
theorem dX9_mend_111 : decode cX9_mend 111 = .ok (.invokevirtual 119, 3) := by decide +kernel
theorem dX9_mend_114 : decode cX9_mend 114 = .ok (.istore_n 3, 1) := by decide +kernel
theorem dX9_mend_115 : decode cX9_mend 115 = .ok (.aload_n 0, 1) := by decide +kernel
theorem dX9_mend_116 : decode cX9_mend 116 = .ok (.iload_n 2, 1) := by decide +kernel
theorem dX9_mend_117 : decode cX9_mend 117 = .ok (.iload_n 1, 1) := by decide +kernel
theorem dX9_mend_118 : decode cX9_mend 118 = .ok (.iconst 1, 1) := by decide +kernel
theorem dX9_mend_119 : decode cX9_mend 119 = .ok (.iadd, 1) := by decide +kernel
theorem dX9_mend_120 : decode cX9_mend 120 = .ok (.invokevirtual 119, 3) := by decide +kernel
theorem dX9_mend_123 : decode cX9_mend 123 = .ok (.istore 4, 2) := by decide +kernel
theorem dX9_mend_125 : decode cX9_mend 125 = .ok (.iload_n 3, 1) := by decide +kernel
theorem dX9_mend_126 : decode cX9_mend 126 = .ok (.aload_n 0, 1) := by decide +kernel
theorem dX9_mend_127 : decode cX9_mend 127 = .ok (.iload_n 2, 1) := by decide +kernel
theorem dX9_mend_128 : decode cX9_mend 128 = .ok (.iload_n 1, 1) := by decide +kernel
theorem dX9_mend_129 : decode cX9_mend 129 = .ok (.invokevirtual 119, 3) := by decide +kernel
theorem dX9_mend_132 : decode cX9_mend 132 = .ok (.if_icmp .ge 14, 3) := by decide +kernel
theorem dX9_mend_135 : decode cX9_mend 135 = .ok (.iload 4, 2) := by decide +kernel
theorem dX9_mend_137 : decode cX9_mend 137 = .ok (.aload_n 0, 1) := by decide +kernel
theorem dX9_mend_138 : decode cX9_mend 138 = .ok (.iload_n 2, 1) := by decide +kernel
theorem dX9_mend_139 : decode cX9_mend 139 = .ok (.iload_n 1, 1) := by decide +kernel
theorem dX9_mend_140 : decode cX9_mend 140 = .ok (.invokevirtual 119, 3) := by decide +kernel
theorem dX9_mend_143 : decode cX9_mend 143 = .ok (.if_icmp .lt 6, 3) := by decide +kernel
theorem dX9_mend_146 : decode cX9_mend 146 = .ok (.bipush (-2), 2) := by decide +kernel
theorem dX9_mend_148 : decode cX9_mend 148 = .ok (.ireturn, 1) := by decide +kernel
theorem dX9_mend_149 : decode cX9_mend 149 = .ok (.iload_n 3, 1) := by decide +kernel
theorem dX9_mend_150 : decode cX9_mend 150 = .ok (.iload 4, 2) := by decide +kernel
theorem dX9_mend_152 : decode cX9_mend 152 = .ok (.if_icmp .le 7, 3) := by decide +kernel
theorem dX9_mend_155 : decode cX9_mend 155 = .ok (.iload_n 3, 1) := by decide +kernel
theorem dX9_mend_156 : decode cX9_mend 156 = .ok (.goto 5, 3) := by decide +kernel
theorem dX9_mend_159 : decode cX9_mend 159 = .ok (.iload 4, 2) := by decide +kernel
theorem dX9_mend_161 : decode cX9_mend 161 = .ok (.istore 5, 2) := by decide +kernel
theorem dX9_mend_163 : decode cX9_mend 163 = .ok (.aload_n 0, 1) := by decide +kernel
theorem dX9_mend_164 : decode cX9_mend 164 = .ok (.bipush 40, 2) := by decide +kernel
theorem dX9_mend_166 : decode cX9_mend 166 = .ok (.iload_n 2, 1) := by decide +kernel
theorem dX9_mend_167 : decode cX9_mend 167 = .ok (.imul, 1) := by decide +kernel
theorem dX9_mend_168 : decode cX9_mend 168 = .ok (.aload_n 0, 1) := by decide +kernel
theorem dX9_mend_169 : decode cX9_mend 169 = .ok (.getfield 61, 3) := by decide +kernel
theorem dX9_mend_172 : decode cX9_mend 172 = .ok (.bipush 40, 2) := by decide +kernel
theorem dX9_mend_174 : decode cX9_mend 174 = .ok (.iload_n 2, 1) := by decide +kernel
theorem dX9_mend_175 : decode cX9_mend 175 = .ok (.imul, 1) := by decide +kernel
theorem dX9_mend_176 : decode cX9_mend 176 = .ok (.iload_n 1, 1) := by decide +kernel
theorem dX9_mend_177 : decode cX9_mend 177 = .ok (.iadd, 1) := by decide +kernel
theorem dX9_mend_178 : decode cX9_mend 178 = .ok (.iaload, 1) := by decide +kernel
theorem dX9_mend_179 : decode cX9_mend 179 = .ok (.iadd, 1) := by decide +kernel
theorem dX9_mend_180 : decode cX9_mend 180 = .ok (.iload 5, 2) := by decide +kernel
theorem dX9_mend_182 : decode cX9_mend 182 = .ok (.invokevirtual 98, 3) := by decide +kernel
theorem dX9_mend_185 : decode cX9_mend 185 = .ok (.iload 5, 2) := by decide +kernel
theorem dX9_mend_187 : decode cX9_mend 187 = .ok (.ireturn, 1) := by decide +kernel
theorem dX9_note_0 : decode cX9_note 0 = .ok (.aload_n 0, 1) := by decide +kernel
theorem dX9_note_1 : decode cX9_note 1 = .ok (.iload_n 1, 1) := by decide +kernel
theorem dX9_note_2 : decode cX9_note 2 = .ok (.iload_n 2, 1) := by decide +kernel
theorem dX9_note_3 : decode cX9_note 3 = .ok (.invokevirtual 91, 3) := by decide +kernel
theorem dX9_note_6 : decode cX9_note 6 = .ok (.ifCond .eq 28, 3) := by decide +kernel
theorem dX9_note_9 : decode cX9_note 9 = .ok (.aload_n 0, 1) := by decide +kernel
theorem dX9_note_10 : decode cX9_note 10 = .ok (.iload_n 1, 1) := by decide +kernel
theorem dX9_note_11 : decode cX9_note 11 = .ok (.iload_n 3, 1) := by decide +kernel
theorem dX9_note_12 : decode cX9_note 12 = .ok (.invokevirtual 91, 3) := by decide +kernel
theorem dX9_note_15 : decode cX9_note 15 = .ok (.ifCond .eq 19, 3) := by decide +kernel
theorem dX9_note_18 : decode cX9_note 18 = .ok (.iload_n 2, 1) := by decide +kernel
theorem dX9_note_19 : decode cX9_note 19 = .ok (.iload_n 3, 1) := by decide +kernel
theorem dX9_note_20 : decode cX9_note 20 = .ok (.if_icmp .gt 14, 3) := by decide +kernel
theorem dX9_note_23 : decode cX9_note 23 = .ok (.iload 4, 2) := by decide +kernel
theorem dX9_note_25 : decode cX9_note 25 = .ok (.iconst 1, 1) := by decide +kernel
theorem dX9_note_26 : decode cX9_note 26 = .ok (.bipush 9, 2) := by decide +kernel
theorem dX9_note_28 : decode cX9_note 28 = .ok (.invokestatic 77, 3) := by decide +kernel
theorem dX9_note_31 : decode cX9_note 31 = .ok (.ifCond .ne 5, 3) := by decide +kernel
theorem dX9_note_34 : decode cX9_note 34 = .ok (.iconst (-1), 1) := by decide +kernel
theorem dX9_note_35 : decode cX9_note 35 = .ok (.ireturn, 1) := by decide +kernel
theorem dX9_note_36 : decode cX9_note 36 = .ok (.aload_n 0, 1) := by decide +kernel
theorem dX9_note_37 : decode cX9_note 37 = .ok (.getfield 140, 3) := by decide +kernel
theorem dX9_note_40 : decode cX9_note 40 = .ok (.bipush 12, 2) := by decide +kernel
theorem dX9_note_42 : decode cX9_note 42 = .ok (.if_icmp .ne 6, 3) := by decide +kernel
theorem dX9_note_45 : decode cX9_note 45 = .ok (.bipush (-3), 2) := by decide +kernel
theorem dX9_note_47 : decode cX9_note 47 = .ok (.ireturn, 1) := by decide +kernel
theorem dX9_note_48 : decode cX9_note 48 = .ok (.aload_n 0, 1) := by decide +kernel
theorem dX9_note_49 : decode cX9_note 49 = .ok (.getfield 28, 3) := by decide +kernel
theorem dX9_note_52 : decode cX9_note 52 = .ok (.aload_n 0, 1) := by decide +kernel
theorem dX9_note_53 : decode cX9_note 53 = .ok (.getfield 140, 3) := by decide +kernel
theorem dX9_note_56 : decode cX9_note 56 = .ok (.iload_n 1, 1) := by decide +kernel
theorem dX9_note_57 : decode cX9_note 57 = .ok (.iastore, 1) := by decide +kernel
theorem dX9_note_58 : decode cX9_note 58 = .ok (.aload_n 0, 1) := by decide +kernel
theorem dX9_note_59 : decode cX9_note 59 = .ok (.getfield 31, 3) := by decide +kernel
theorem dX9_note_62 : decode cX9_note 62 = .ok (.aload_n 0, 1) := by decide +kernel
theorem dX9_note_63 : decode cX9_note 63 = .ok (.getfield 140, 3) := by decide +kernel
theorem dX9_note_66 : decode cX9_note 66 = .ok (.iload_n 2, 1) := by decide +kernel
theorem dX9_note_67 : decode cX9_note 67 = .ok (.iastore, 1) := by decide +kernel
theorem dX9_note_68 : decode cX9_note 68 = .ok (.aload_n 0, 1) := by decide +kernel
theorem dX9_note_69 : decode cX9_note 69 = .ok (.getfield 34, 3) := by decide +kernel
theorem dX9_note_72 : decode cX9_note 72 = .ok (.aload_n 0, 1) := by decide +kernel
theorem dX9_note_73 : decode cX9_note 73 = .ok (.getfield 140, 3) := by decide +kernel
theorem dX9_note_76 : decode cX9_note 76 = .ok (.iload_n 3, 1) := by decide +kernel
theorem dX9_note_77 : decode cX9_note 77 = .ok (.iastore, 1) := by decide +kernel
theorem dX9_note_78 : decode cX9_note 78 = .ok (.aload_n 0, 1) := by decide +kernel
theorem dX9_note_79 : decode cX9_note 79 = .ok (.getfield 37, 3) := by decide +kernel
theorem dX9_note_82 : decode cX9_note 82 = .ok (.aload_n 0, 1) := by decide +kernel
theorem dX9_note_83 : decode cX9_note 83 = .ok (.getfield 140, 3) := by decide +kernel
theorem dX9_note_86 : decode cX9_note 86 = .ok (.iload 4, 2) := by decide +kernel
theorem dX9_note_88 : decode cX9_note 88 = .ok (.iastore, 1) := by decide +kernel
theorem dX9_note_89 : decode cX9_note 89 = .ok (.aload_n 0, 1) := by decide +kernel
theorem dX9_note_90 : decode cX9_note 90 = .ok (.dup, 1) := by decide +kernel
theorem dX9_note_91 : decode cX9_note 91 = .ok (.getfield 140, 3) := by decide +kernel
theorem dX9_note_94 : decode cX9_note 94 = .ok (.iconst 1, 1) := by decide +kernel
theorem dX9_note_95 : decode cX9_note 95 = .ok (.iadd, 1) := by decide +kernel
theorem dX9_note_96 : decode cX9_note 96 = .ok (.putfield 140, 3) := by decide +kernel
theorem dX9_note_99 : decode cX9_note 99 = .ok (.aload_n 0, 1) := by decide +kernel
theorem dX9_note_100 : decode cX9_note 100 = .ok (.getfield 140, 3) := by decide +kernel
theorem dX9_note_103 : decode cX9_note 103 = .ok (.ireturn, 1) := by decide +kernel
theorem dX9_tintOf_0 : decode cX9_tintOf 0 = .ok (.iconst 0, 1) := by decide +kernel
theorem dX9_tintOf_1 : decode cX9_tintOf 1 = .ok (.istore_n 3, 1) := by decide +kernel
theorem dX9_tintOf_2 : decode cX9_tintOf 2 = .ok (.iconst 0, 1) := by decide +kernel
theorem dX9_tintOf_3 : decode cX9_tintOf 3 = .ok (.istore 4, 2) := by decide +kernel
theorem dX9_tintOf_5 : decode cX9_tintOf 5 = .ok (.iload 4, 2) := by decide +kernel
theorem dX9_tintOf_7 : decode cX9_tintOf 7 = .ok (.aload_n 0, 1) := by decide +kernel
theorem dX9_tintOf_8 : decode cX9_tintOf 8 = .ok (.getfield 140, 3) := by decide +kernel
theorem dX9_tintOf_11 : decode cX9_tintOf 11 = .ok (.if_icmp .ge 53, 3) := by decide +kernel
theorem dX9_tintOf_14 : decode cX9_tintOf 14 = .ok (.aload_n 0, 1) := by decide +kernel
theorem dX9_tintOf_15 : decode cX9_tintOf 15 = .ok (.getfield 28, 3) := by decide +kernel
theorem dX9_tintOf_18 : decode cX9_tintOf 18 = .ok (.iload 4, 2) := by decide +kernel
theorem dX9_tintOf_20 : decode cX9_tintOf 20 = .ok (.iaload, 1) := by decide +kernel
theorem dX9_tintOf_21 : decode cX9_tintOf 21 = .ok (.iload_n 1, 1) := by decide +kernel
theorem dX9_tintOf_22 : decode cX9_tintOf 22 = .ok (.if_icmp .ne 34, 3) := by decide +kernel
theorem dX9_tintOf_25 : decode cX9_tintOf 25 = .ok (.iload_n 2, 1) := by decide +kernel
theorem dX9_tintOf_26 : decode cX9_tintOf 26 = .ok (.aload_n 0, 1) := by decide +kernel
theorem dX9_tintOf_27 : decode cX9_tintOf 27 = .ok (.getfield 31, 3) := by decide +kernel
theorem dX9_tintOf_30 : decode cX9_tintOf 30 = .ok (.iload 4, 2) := by decide +kernel
theorem dX9_tintOf_32 : decode cX9_tintOf 32 = .ok (.iaload, 1) := by decide +kernel
theorem dX9_tintOf_33 : decode cX9_tintOf 33 = .ok (.aload_n 0, 1) := by decide +kernel
theorem dX9_tintOf_34 : decode cX9_tintOf 34 = .ok (.getfield 34, 3) := by decide +kernel
theorem dX9_tintOf_37 : decode cX9_tintOf 37 = .ok (.iload 4, 2) := by decide +kernel
theorem dX9_tintOf_39 : decode cX9_tintOf 39 = .ok (.iaload, 1) := by decide +kernel
theorem dX9_tintOf_40 : decode cX9_tintOf 40 = .ok (.invokestatic 77, 3) := by decide +kernel
theorem dX9_tintOf_43 : decode cX9_tintOf 43 = .ok (.ifCond .eq 13, 3) := by decide +kernel
theorem dX9_tintOf_46 : decode cX9_tintOf 46 = .ok (.aload_n 0, 1) := by decide +kernel
theorem dX9_tintOf_47 : decode cX9_tintOf 47 = .ok (.getfield 37, 3) := by decide +kernel
theorem dX9_tintOf_50 : decode cX9_tintOf 50 = .ok (.iload 4, 2) := by decide +kernel
theorem dX9_tintOf_52 : decode cX9_tintOf 52 = .ok (.iaload, 1) := by decide +kernel
theorem dX9_tintOf_53 : decode cX9_tintOf 53 = .ok (.goto 4, 3) := by decide +kernel
theorem dX9_tintOf_56 : decode cX9_tintOf 56 = .ok (.iload_n 3, 1) := by decide +kernel
theorem dX9_tintOf_57 : decode cX9_tintOf 57 = .ok (.istore_n 3, 1) := by decide +kernel
theorem dX9_tintOf_58 : decode cX9_tintOf 58 = .ok (.iinc 4 1, 3) := by decide +kernel
theorem dX9_tintOf_61 : decode cX9_tintOf 61 = .ok (.goto (-56), 3) := by decide +kernel
theorem dX9_tintOf_64 : decode cX9_tintOf 64 = .ok (.iload_n 3, 1) := by decide +kernel
theorem dX9_tintOf_65 : decode cX9_tintOf 65 = .ok (.ireturn, 1) := by decide +kernel
theorem dX9_tint_0 : decode cX9_tint 0 = .ok (.aload_n 0, 1) := by decide +kernel
theorem dX9_tint_1 : decode cX9_tint 1 = .ok (.iload_n 1, 1) := by decide +kernel
theorem dX9_tint_2 : decode cX9_tint 2 = .ok (.invokevirtual 109, 3) := by decide +kernel
theorem dX9_tint_5 : decode cX9_tint 5 = .ok (.ifCond .ne 5, 3) := by decide +kernel
theorem dX9_tint_8 : decode cX9_tint 8 = .ok (.iconst (-1), 1) := by decide +kernel
theorem dX9_tint_9 : decode cX9_tint 9 = .ok (.ireturn, 1) := by decide +kernel
theorem dX9_tint_10 : decode cX9_tint 10 = .ok (.aload_n 0, 1) := by decide +kernel
theorem dX9_tint_11 : decode cX9_tint 11 = .ok (.invokevirtual 136, 3) := by decide +kernel
theorem dX9_tint_14 : decode cX9_tint 14 = .ok (.pop, 1) := by decide +kernel
theorem dX9_tint_15 : decode cX9_tint 15 = .ok (.aload_n 0, 1) := by decide +kernel
theorem dX9_tint_16 : decode cX9_tint 16 = .ok (.getfield 67, 3) := by decide +kernel
theorem dX9_tint_19 : decode cX9_tint 19 = .ok (.iload_n 1, 1) := by decide +kernel
theorem dX9_tint_20 : decode cX9_tint 20 = .ok (.iaload, 1) := by decide +kernel
theorem dX9_tint_21 : decode cX9_tint 21 = .ok (.bipush 6, 2) := by decide +kernel
theorem dX9_tint_23 : decode cX9_tint 23 = .ok (.if_icmp .ne 7, 3) := by decide +kernel
theorem dX9_tint_26 : decode cX9_tint 26 = .ok (.iconst 0, 1) := by decide +kernel
theorem dX9_tint_27 : decode cX9_tint 27 = .ok (.goto 29, 3) := by decide +kernel
theorem dX9_tint_30 : decode cX9_tint 30 = .ok (.aload_n 0, 1) := by decide +kernel
theorem dX9_tint_31 : decode cX9_tint 31 = .ok (.aload_n 0, 1) := by decide +kernel
theorem dX9_tint_32 : decode cX9_tint 32 = .ok (.getfield 67, 3) := by decide +kernel
theorem dX9_tint_35 : decode cX9_tint 35 = .ok (.iload_n 1, 1) := by decide +kernel
theorem dX9_tint_36 : decode cX9_tint 36 = .ok (.iaload, 1) := by decide +kernel
theorem dX9_tint_37 : decode cX9_tint 37 = .ok (.aload_n 0, 1) := by decide +kernel
theorem dX9_tint_38 : decode cX9_tint 38 = .ok (.getfield 61, 3) := by decide +kernel
theorem dX9_tint_41 : decode cX9_tint 41 = .ok (.bipush 40, 2) := by decide +kernel
theorem dX9_tint_43 : decode cX9_tint 43 = .ok (.aload_n 0, 1) := by decide +kernel
theorem dX9_tint_44 : decode cX9_tint 44 = .ok (.getfield 67, 3) := by decide +kernel
theorem dX9_tint_47 : decode cX9_tint 47 = .ok (.iload_n 1, 1) := by decide +kernel
theorem dX9_tint_48 : decode cX9_tint 48 = .ok (.iaload, 1) := by decide +kernel
theorem dX9_tint_49 : decode cX9_tint 49 = .ok (.imul, 1) := by decide +kernel
theorem dX9_tint_50 : decode cX9_tint 50 = .ok (.iload_n 1, 1) := by decide +kernel
theorem dX9_tint_51 : decode cX9_tint 51 = .ok (.iadd, 1) := by decide +kernel
theorem dX9_tint_52 : decode cX9_tint 52 = .ok (.iaload, 1) := by decide +kernel
theorem dX9_tint_53 : decode cX9_tint 53 = .ok (.invokevirtual 143, 3) := by decide +kernel
theorem dX9_tint_56 : decode cX9_tint 56 = .ok (.istore_n 2, 1) := by decide +kernel
theorem dX9_tint_57 : decode cX9_tint 57 = .ok (.iload_n 2, 1) := by decide +kernel
theorem dX9_tint_58 : decode cX9_tint 58 = .ok (.ifCond .le 5, 3) := by decide +kernel
theorem dX9_tint_61 : decode cX9_tint 61 = .ok (.iload_n 2, 1) := by decide +kernel
theorem dX9_tint_62 : decode cX9_tint 62 = .ok (.ireturn, 1) := by decide +kernel
theorem dX9_tint_63 : decode cX9_tint 63 = .ok (.bipush 99, 2) := by decide +kernel
theorem dX9_tint_65 : decode cX9_tint 65 = .ok (.istore_n 3, 1) := by decide +kernel
theorem dX9_tint_66 : decode cX9_tint 66 = .ok (.iconst 0, 1) := by decide +kernel
theorem dX9_tint_67 : decode cX9_tint 67 = .ok (.istore 4, 2) := by decide +kernel
theorem dX9_tint_69 : decode cX9_tint 69 = .ok (.iload 4, 2) := by decide +kernel
theorem dX9_tint_71 : decode cX9_tint 71 = .ok (.aload_n 0, 1) := by decide +kernel
theorem dX9_tint_72 : decode cX9_tint 72 = .ok (.getfield 73, 3) := by decide +kernel
theorem dX9_tint_75 : decode cX9_tint 75 = .ok (.if_icmp .ge 75, 3) := by decide +kernel
theorem dX9_tint_78 : decode cX9_tint 78 = .ok (.aload_n 0, 1) := by decide +kernel
theorem dX9_tint_79 : decode cX9_tint 79 = .ok (.getfield 61, 3) := by decide +kernel
theorem dX9_tint_82 : decode cX9_tint 82 = .ok (.bipush 40, 2) := by decide +kernel
theorem dX9_tint_84 : decode cX9_tint 84 = .ok (.iload 4, 2) := by decide +kernel
theorem dX9_tint_86 : decode cX9_tint 86 = .ok (.imul, 1) := by decide +kernel
theorem dX9_tint_87 : decode cX9_tint 87 = .ok (.iload_n 1, 1) := by decide +kernel
theorem dX9_tint_88 : decode cX9_tint 88 = .ok (.iadd, 1) := by decide +kernel
theorem dX9_tint_89 : decode cX9_tint 89 = .ok (.iaload, 1) := by decide +kernel
theorem dX9_tint_90 : decode cX9_tint 90 = .ok (.ifCond .ge 7, 3) := by decide +kernel
theorem dX9_tint_93 : decode cX9_tint 93 = .ok (.iconst 0, 1) := by decide +kernel
theorem dX9_tint_94 : decode cX9_tint 94 = .ok (.goto 21, 3) := by decide +kernel
theorem dX9_tint_97 : decode cX9_tint 97 = .ok (.aload_n 0, 1) := by decide +kernel
theorem dX9_tint_98 : decode cX9_tint 98 = .ok (.iload 4, 2) := by decide +kernel
theorem dX9_tint_100 : decode cX9_tint 100 = .ok (.aload_n 0, 1) := by decide +kernel
theorem dX9_tint_101 : decode cX9_tint 101 = .ok (.getfield 61, 3) := by decide +kernel
theorem dX9_tint_104 : decode cX9_tint 104 = .ok (.bipush 40, 2) := by decide +kernel
theorem dX9_tint_106 : decode cX9_tint 106 = .ok (.iload 4, 2) := by decide +kernel
theorem dX9_tint_108 : decode cX9_tint 108 = .ok (.imul, 1) := by decide +kernel
theorem dX9_tint_109 : decode cX9_tint 109 = .ok (.iload_n 1, 1) := by decide +kernel
theorem dX9_tint_110 : decode cX9_tint 110 = .ok (.iadd, 1) := by decide +kernel
theorem dX9_tint_111 : decode cX9_tint 111 = .ok (.iaload, 1) := by decide +kernel
theorem dX9_tint_112 : decode cX9_tint 112 = .ok (.invokevirtual 143, 3) := by decide +kernel
theorem dX9_tint_115 : decode cX9_tint 115 = .ok (.istore 5, 2) := by decide +kernel
theorem dX9_tint_117 : decode cX9_tint 117 = .ok (.iload 5, 2) := by decide +kernel
theorem dX9_tint_119 : decode cX9_tint 119 = .ok (.ifCond .le 25, 3) := by decide +kernel
theorem dX9_tint_122 : decode cX9_tint 122 = .ok (.aload_n 0, 1) := by decide +kernel
theorem dX9_tint_123 : decode cX9_tint 123 = .ok (.iload 4, 2) := by decide +kernel
theorem dX9_tint_125 : decode cX9_tint 125 = .ok (.iload_n 1, 1) := by decide +kernel
theorem dX9_tint_126 : decode cX9_tint 126 = .ok (.invokevirtual 119, 3) := by decide +kernel
theorem dX9_tint_129 : decode cX9_tint 129 = .ok (.iload_n 3, 1) := by decide +kernel
theorem dX9_tint_130 : decode cX9_tint 130 = .ok (.if_icmp .ge 14, 3) := by decide +kernel
theorem dX9_tint_133 : decode cX9_tint 133 = .ok (.aload_n 0, 1) := by decide +kernel
theorem dX9_tint_134 : decode cX9_tint 134 = .ok (.iload 4, 2) := by decide +kernel
theorem dX9_tint_136 : decode cX9_tint 136 = .ok (.iload_n 1, 1) := by decide +kernel
theorem dX9_tint_137 : decode cX9_tint 137 = .ok (.invokevirtual 119, 3) := by decide +kernel
theorem dX9_tint_140 : decode cX9_tint 140 = .ok (.istore_n 3, 1) := by decide +kernel
theorem dX9_tint_141 : decode cX9_tint 141 = .ok (.iload 5, 2) := by decide +kernel
theorem dX9_tint_143 : decode cX9_tint 143 = .ok (.istore_n 2, 1) := by decide +kernel
theorem dX9_tint_144 : decode cX9_tint 144 = .ok (.iinc 4 1, 3) := by decide +kernel
theorem dX9_tint_147 : decode cX9_tint 147 = .ok (.goto (-78), 3) := by decide +kernel
theorem dX9_tint_150 : decode cX9_tint 150 = .ok (.iload_n 2, 1) := by decide +kernel
theorem dX9_tint_151 : decode cX9_tint 151 = .ok (.ireturn, 1) := by decide +kernel
theorem dX9_cue_0 : decode cX9_cue 0 = .ok (.iload_n 1, 1) := by decide +kernel
theorem dX9_cue_1 : decode cX9_cue 1 = .ok (.iconst 0, 1) := by decide +kernel
theorem dX9_cue_2 : decode cX9_cue 2 = .ok (.iconst 5, 1) := by decide +kernel
theorem dX9_cue_3 : decode cX9_cue 3 = .ok (.invokestatic 77, 3) := by decide +kernel
theorem dX9_cue_6 : decode cX9_cue 6 = .ok (.ifCond .eq 27, 3) := by decide +kernel
theorem dX9_cue_9 : decode cX9_cue 9 = .ok (.iload_n 2, 1) := by decide +kernel
theorem dX9_cue_10 : decode cX9_cue 10 = .ok (.iconst 0, 1) := by decide +kernel
theorem dX9_cue_11 : decode cX9_cue 11 = .ok (.iconst 5, 1) := by decide +kernel
theorem dX9_cue_12 : decode cX9_cue 12 = .ok (.invokestatic 77, 3) := by decide +kernel
theorem dX9_cue_15 : decode cX9_cue 15 = .ok (.ifCond .eq 18, 3) := by decide +kernel
theorem dX9_cue_18 : decode cX9_cue 18 = .ok (.iload_n 1, 1) := by decide +kernel
theorem dX9_cue_19 : decode cX9_cue 19 = .ok (.iload_n 2, 1) := by decide +kernel
theorem dX9_cue_20 : decode cX9_cue 20 = .ok (.if_icmp .eq 13, 3) := by decide +kernel
theorem dX9_cue_23 : decode cX9_cue 23 = .ok (.iload_n 3, 1) := by decide +kernel
theorem dX9_cue_24 : decode cX9_cue 24 = .ok (.iconst 1, 1) := by decide +kernel
theorem dX9_cue_25 : decode cX9_cue 25 = .ok (.bipush 100, 2) := by decide +kernel
theorem dX9_cue_27 : decode cX9_cue 27 = .ok (.invokestatic 77, 3) := by decide +kernel
theorem dX9_cue_30 : decode cX9_cue 30 = .ok (.ifCond .ne 5, 3) := by decide +kernel
theorem dX9_cue_33 : decode cX9_cue 33 = .ok (.iconst (-1), 1) := by decide +kernel
theorem dX9_cue_34 : decode cX9_cue 34 = .ok (.ireturn, 1) := by decide +kernel
theorem dX9_cue_35 : decode cX9_cue 35 = .ok (.aload_n 0, 1) := by decide +kernel
theorem dX9_cue_36 : decode cX9_cue 36 = .ok (.getfield 146, 3) := by decide +kernel
theorem dX9_cue_39 : decode cX9_cue 39 = .ok (.bipush 20, 2) := by decide +kernel
theorem dX9_cue_41 : decode cX9_cue 41 = .ok (.if_icmp .ne 6, 3) := by decide +kernel
theorem dX9_cue_44 : decode cX9_cue 44 = .ok (.bipush (-3), 2) := by decide +kernel
theorem dX9_cue_46 : decode cX9_cue 46 = .ok (.ireturn, 1) := by decide +kernel
theorem dX9_cue_47 : decode cX9_cue 47 = .ok (.aload_n 0, 1) := by decide +kernel
theorem dX9_cue_48 : decode cX9_cue 48 = .ok (.getfield 40, 3) := by decide +kernel
theorem dX9_cue_51 : decode cX9_cue 51 = .ok (.aload_n 0, 1) := by decide +kernel
theorem dX9_cue_52 : decode cX9_cue 52 = .ok (.getfield 146, 3) := by decide +kernel
theorem dX9_cue_55 : decode cX9_cue 55 = .ok (.iload_n 1, 1) := by decide +kernel
theorem dX9_cue_56 : decode cX9_cue 56 = .ok (.iastore, 1) := by decide +kernel
theorem dX9_cue_57 : decode cX9_cue 57 = .ok (.aload_n 0, 1) := by decide +kernel
theorem dX9_cue_58 : decode cX9_cue 58 = .ok (.getfield 43, 3) := by decide +kernel
theorem dX9_cue_61 : decode cX9_cue 61 = .ok (.aload_n 0, 1) := by decide +kernel
theorem dX9_cue_62 : decode cX9_cue 62 = .ok (.getfield 146, 3) := by decide +kernel
theorem dX9_cue_65 : decode cX9_cue 65 = .ok (.iload_n 2, 1) := by decide +kernel
theorem dX9_cue_66 : decode cX9_cue 66 = .ok (.iastore, 1) := by decide +kernel
theorem dX9_cue_67 : decode cX9_cue 67 = .ok (.aload_n 0, 1) := by decide +kernel
theorem dX9_cue_68 : decode cX9_cue 68 = .ok (.getfield 46, 3) := by decide +kernel
theorem dX9_cue_71 : decode cX9_cue 71 = .ok (.aload_n 0, 1) := by decide +kernel
theorem dX9_cue_72 : decode cX9_cue 72 = .ok (.getfield 146, 3) := by decide +kernel
theorem dX9_cue_75 : decode cX9_cue 75 = .ok (.iload_n 3, 1) := by decide +kernel
theorem dX9_cue_76 : decode cX9_cue 76 = .ok (.iastore, 1) := by decide +kernel
theorem dX9_cue_77 : decode cX9_cue 77 = .ok (.aload_n 0, 1) := by decide +kernel
theorem dX9_cue_78 : decode cX9_cue 78 = .ok (.dup, 1) := by decide +kernel
theorem dX9_cue_79 : decode cX9_cue 79 = .ok (.getfield 146, 3) := by decide +kernel
theorem dX9_cue_82 : decode cX9_cue 82 = .ok (.iconst 1, 1) := by decide +kernel
theorem dX9_cue_83 : decode cX9_cue 83 = .ok (.iadd, 1) := by decide +kernel
theorem dX9_cue_84 : decode cX9_cue 84 = .ok (.putfield 146, 3) := by decide +kernel
theorem dX9_cue_87 : decode cX9_cue 87 = .ok (.aload_n 0, 1) := by decide +kernel
theorem dX9_cue_88 : decode cX9_cue 88 = .ok (.getfield 146, 3) := by decide +kernel
theorem dX9_cue_91 : decode cX9_cue 91 = .ok (.ireturn, 1) := by decide +kernel
theorem dX9_noCues_0 : decode cX9_noCues 0 = .ok (.aload_n 0, 1) := by decide +kernel
theorem dX9_noCues_1 : decode cX9_noCues 1 = .ok (.getfield 146, 3) := by decide +kernel
theorem dX9_noCues_4 : decode cX9_noCues 4 = .ok (.istore_n 1, 1) := by decide +kernel
theorem dX9_noCues_5 : decode cX9_noCues 5 = .ok (.aload_n 0, 1) := by decide +kernel
theorem dX9_noCues_6 : decode cX9_noCues 6 = .ok (.iconst 0, 1) := by decide +kernel
theorem dX9_noCues_7 : decode cX9_noCues 7 = .ok (.putfield 146, 3) := by decide +kernel
theorem dX9_noCues_10 : decode cX9_noCues 10 = .ok (.iload_n 1, 1) := by decide +kernel
theorem dX9_noCues_11 : decode cX9_noCues 11 = .ok (.ireturn, 1) := by decide +kernel
theorem dX9_ordered_0 : decode cX9_ordered 0 = .ok (.iconst 1, 1) := by decide +kernel
theorem dX9_ordered_1 : decode cX9_ordered 1 = .ok (.istore_n 3, 1) := by decide +kernel
theorem dX9_ordered_2 : decode cX9_ordered 2 = .ok (.iconst 2, 1) := by decide +kernel
theorem dX9_ordered_3 : decode cX9_ordered 3 = .ok (.istore 4, 2) := by decide +kernel
theorem dX9_ordered_5 : decode cX9_ordered 5 = .ok (.iload 4, 2) := by decide +kernel
theorem dX9_ordered_7 : decode cX9_ordered 7 = .ok (.iload_n 1, 1) := by decide +kernel
theorem dX9_ordered_8 : decode cX9_ordered 8 = .ok (.if_icmp .ge 14, 3) := by decide +kernel
theorem dX9_ordered_11 : decode cX9_ordered 11 = .ok (.iload_n 3, 1) := by decide +kernel
theorem dX9_ordered_12 : decode cX9_ordered 12 = .ok (.iload 4, 2) := by decide +kernel
theorem dX9_ordered_14 : decode cX9_ordered 14 = .ok (.imul, 1) := by decide +kernel
theorem dX9_ordered_15 : decode cX9_ordered 15 = .ok (.istore_n 3, 1) := by decide +kernel
theorem dX9_ordered_16 : decode cX9_ordered 16 = .ok (.iinc 4 1, 3) := by decide +kernel
theorem dX9_ordered_19 : decode cX9_ordered 19 = .ok (.goto (-14), 3) := by decide +kernel
theorem dX9_ordered_22 : decode cX9_ordered 22 = .ok (.iload_n 2, 1) := by decide +kernel
theorem dX9_ordered_23 : decode cX9_ordered 23 = .ok (.istore 4, 2) := by decide +kernel
theorem dX9_ordered_25 : decode cX9_ordered 25 = .ok (.iconst 0, 1) := by decide +kernel
theorem dX9_ordered_26 : decode cX9_ordered 26 = .ok (.istore 5, 2) := by decide +kernel
theorem dX9_ordered_28 : decode cX9_ordered 28 = .ok (.iconst 0, 1) := by decide +kernel
theorem dX9_ordered_29 : decode cX9_ordered 29 = .ok (.istore 6, 2) := by decide +kernel
theorem dX9_ordered_31 : decode cX9_ordered 31 = .ok (.iconst 0, 1) := by decide +kernel
theorem dX9_ordered_32 : decode cX9_ordered 32 = .ok (.istore 7, 2) := by decide +kernel
theorem dX9_ordered_34 : decode cX9_ordered 34 = .ok (.iload 7, 2) := by decide +kernel
theorem dX9_ordered_36 : decode cX9_ordered 36 = .ok (.iload_n 1, 1) := by decide +kernel
theorem dX9_ordered_37 : decode cX9_ordered 37 = .ok (.if_icmp .ge 118, 3) := by decide +kernel
theorem dX9_ordered_40 : decode cX9_ordered 40 = .ok (.iload 4, 2) := by decide +kernel
theorem dX9_ordered_42 : decode cX9_ordered 42 = .ok (.iload_n 3, 1) := by decide +kernel
theorem dX9_ordered_43 : decode cX9_ordered 43 = .ok (.idiv, 1) := by decide +kernel
theorem dX9_ordered_44 : decode cX9_ordered 44 = .ok (.istore 8, 2) := by decide +kernel
theorem dX9_ordered_46 : decode cX9_ordered 46 = .ok (.iload 4, 2) := by decide +kernel
theorem dX9_ordered_48 : decode cX9_ordered 48 = .ok (.iload_n 3, 1) := by decide +kernel
theorem dX9_ordered_49 : decode cX9_ordered 49 = .ok (.irem, 1) := by decide +kernel
theorem dX9_ordered_50 : decode cX9_ordered 50 = .ok (.istore 4, 2) := by decide +kernel
theorem dX9_ordered_52 : decode cX9_ordered 52 = .ok (.iload 7, 2) := by decide +kernel
theorem dX9_ordered_54 : decode cX9_ordered 54 = .ok (.iload_n 1, 1) := by decide +kernel
theorem dX9_ordered_55 : decode cX9_ordered 55 = .ok (.iconst 1, 1) := by decide +kernel
theorem dX9_ordered_56 : decode cX9_ordered 56 = .ok (.isub, 1) := by decide +kernel
theorem dX9_ordered_57 : decode cX9_ordered 57 = .ok (.if_icmp .ge 14, 3) := by decide +kernel
theorem dX9_ordered_60 : decode cX9_ordered 60 = .ok (.iload_n 3, 1) := by decide +kernel
theorem dX9_ordered_61 : decode cX9_ordered 61 = .ok (.iload_n 1, 1) := by decide +kernel
theorem dX9_ordered_62 : decode cX9_ordered 62 = .ok (.iconst 1, 1) := by decide +kernel
theorem dX9_ordered_63 : decode cX9_ordered 63 = .ok (.isub, 1) := by decide +kernel
theorem dX9_ordered_64 : decode cX9_ordered 64 = .ok (.iload 7, 2) := by decide +kernel
theorem dX9_ordered_66 : decode cX9_ordered 66 = .ok (.isub, 1) := by decide +kernel
theorem dX9_ordered_67 : decode cX9_ordered 67 = .ok (.idiv, 1) := by decide +kernel
theorem dX9_ordered_68 : decode cX9_ordered 68 = .ok (.goto 4, 3) := by decide +kernel
theorem dX9_ordered_71 : decode cX9_ordered 71 = .ok (.iconst 1, 1) := by decide +kernel
theorem dX9_ordered_72 : decode cX9_ordered 72 = .ok (.istore_n 3, 1) := by decide +kernel
theorem dX9_ordered_73 : decode cX9_ordered 73 = .ok (.iconst 0, 1) := by decide +kernel
theorem dX9_ordered_74 : decode cX9_ordered 74 = .ok (.istore 9, 2) := by decide +kernel
theorem dX9_ordered_76 : decode cX9_ordered 76 = .ok (.iload 5, 2) := by decide +kernel
theorem dX9_ordered_78 : decode cX9_ordered 78 = .ok (.iload 9, 2) := by decide +kernel
theorem dX9_ordered_80 : decode cX9_ordered 80 = .ok (.ishr, 1) := by decide +kernel
theorem dX9_ordered_81 : decode cX9_ordered 81 = .ok (.iconst 1, 1) := by decide +kernel
theorem dX9_ordered_82 : decode cX9_ordered 82 = .ok (.iand, 1) := by decide +kernel
theorem dX9_ordered_83 : decode cX9_ordered 83 = .ok (.iconst 1, 1) := by decide +kernel
theorem dX9_ordered_84 : decode cX9_ordered 84 = .ok (.if_icmp .eq 8, 3) := by decide +kernel
theorem dX9_ordered_87 : decode cX9_ordered 87 = .ok (.iload 8, 2) := by decide +kernel
theorem dX9_ordered_89 : decode cX9_ordered 89 = .ok (.ifCond .le 30, 3) := by decide +kernel
theorem dX9_ordered_92 : decode cX9_ordered 92 = .ok (.iload 8, 2) := by decide +kernel
theorem dX9_ordered_94 : decode cX9_ordered 94 = .ok (.iload 5, 2) := by decide +kernel
theorem dX9_ordered_96 : decode cX9_ordered 96 = .ok (.iload 9, 2) := by decide +kernel
theorem dX9_ordered_98 : decode cX9_ordered 98 = .ok (.ishr, 1) := by decide +kernel
theorem dX9_ordered_99 : decode cX9_ordered 99 = .ok (.iconst 1, 1) := by decide +kernel
theorem dX9_ordered_100 : decode cX9_ordered 100 = .ok (.iand, 1) := by decide +kernel
theorem dX9_ordered_101 : decode cX9_ordered 101 = .ok (.iconst 1, 1) := by decide +kernel
theorem dX9_ordered_102 : decode cX9_ordered 102 = .ok (.if_icmp .ne 7, 3) := by decide +kernel
theorem dX9_ordered_105 : decode cX9_ordered 105 = .ok (.iconst 0, 1) := by decide +kernel
theorem dX9_ordered_106 : decode cX9_ordered 106 = .ok (.goto 4, 3) := by decide +kernel
theorem dX9_ordered_109 : decode cX9_ordered 109 = .ok (.iconst 1, 1) := by decide +kernel
theorem dX9_ordered_110 : decode cX9_ordered 110 = .ok (.isub, 1) := by decide +kernel
theorem dX9_ordered_111 : decode cX9_ordered 111 = .ok (.istore 8, 2) := by decide +kernel
theorem dX9_ordered_113 : decode cX9_ordered 113 = .ok (.iinc 9 1, 3) := by decide +kernel
theorem dX9_ordered_116 : decode cX9_ordered 116 = .ok (.goto (-40), 3) := by decide +kernel
theorem dX9_ordered_119 : decode cX9_ordered 119 = .ok (.iload 5, 2) := by decide +kernel
theorem dX9_ordered_121 : decode cX9_ordered 121 = .ok (.iconst 1, 1) := by decide +kernel
theorem dX9_ordered_122 : decode cX9_ordered 122 = .ok (.iload 9, 2) := by decide +kernel
theorem dX9_ordered_124 : decode cX9_ordered 124 = .ok (.ishl, 1) := by decide +kernel
theorem dX9_ordered_125 : decode cX9_ordered 125 = .ok (.ior, 1) := by decide +kernel
theorem dX9_ordered_126 : decode cX9_ordered 126 = .ok (.istore 5, 2) := by decide +kernel
theorem dX9_ordered_128 : decode cX9_ordered 128 = .ok (.aload_n 0, 1) := by decide +kernel
theorem dX9_ordered_129 : decode cX9_ordered 129 = .ok (.getfield 70, 3) := by decide +kernel
theorem dX9_ordered_132 : decode cX9_ordered 132 = .ok (.iload 9, 2) := by decide +kernel
theorem dX9_ordered_134 : decode cX9_ordered 134 = .ok (.iload 7, 2) := by decide +kernel
theorem dX9_ordered_136 : decode cX9_ordered 136 = .ok (.iastore, 1) := by decide +kernel
theorem dX9_ordered_137 : decode cX9_ordered 137 = .ok (.iload 6, 2) := by decide +kernel
theorem dX9_ordered_139 : decode cX9_ordered 139 = .ok (.iload 9, 2) := by decide +kernel
theorem dX9_ordered_141 : decode cX9_ordered 141 = .ok (.iconst 3, 1) := by decide +kernel
theorem dX9_ordered_142 : decode cX9_ordered 142 = .ok (.iload 7, 2) := by decide +kernel
theorem dX9_ordered_144 : decode cX9_ordered 144 = .ok (.imul, 1) := by decide +kernel
theorem dX9_ordered_145 : decode cX9_ordered 145 = .ok (.ishl, 1) := by decide +kernel
theorem dX9_ordered_146 : decode cX9_ordered 146 = .ok (.ior, 1) := by decide +kernel
theorem dX9_ordered_147 : decode cX9_ordered 147 = .ok (.istore 6, 2) := by decide +kernel
theorem dX9_ordered_149 : decode cX9_ordered 149 = .ok (.iinc 7 1, 3) := by decide +kernel
theorem dX9_ordered_152 : decode cX9_ordered 152 = .ok (.goto (-118), 3) := by decide +kernel
theorem dX9_ordered_155 : decode cX9_ordered 155 = .ok (.iload 6, 2) := by decide +kernel
theorem dX9_ordered_157 : decode cX9_ordered 157 = .ok (.ireturn, 1) := by decide +kernel
theorem dX9_quarrel_0 : decode cX9_quarrel 0 = .ok (.iconst 0, 1) := by decide +kernel
theorem dX9_quarrel_1 : decode cX9_quarrel 1 = .ok (.istore_n 2, 1) := by decide +kernel
theorem dX9_quarrel_2 : decode cX9_quarrel 2 = .ok (.iconst 0, 1) := by decide +kernel
theorem dX9_quarrel_3 : decode cX9_quarrel 3 = .ok (.istore_n 3, 1) := by decide +kernel
theorem dX9_quarrel_4 : decode cX9_quarrel 4 = .ok (.iload_n 3, 1) := by decide +kernel
theorem dX9_quarrel_5 : decode cX9_quarrel 5 = .ok (.aload_n 0, 1) := by decide +kernel
theorem dX9_quarrel_6 : decode cX9_quarrel 6 = .ok (.getfield 146, 3) := by decide +kernel
theorem dX9_quarrel_9 : decode cX9_quarrel 9 = .ok (.if_icmp .ge 79, 3) := by decide +kernel
theorem dX9_quarrel_12 : decode cX9_quarrel 12 = .ok (.aload_n 0, 1) := by decide +kernel
theorem dX9_quarrel_13 : decode cX9_quarrel 13 = .ok (.getfield 40, 3) := by decide +kernel
theorem dX9_quarrel_16 : decode cX9_quarrel 16 = .ok (.iload_n 3, 1) := by decide +kernel
theorem dX9_quarrel_17 : decode cX9_quarrel 17 = .ok (.iaload, 1) := by decide +kernel
theorem dX9_quarrel_18 : decode cX9_quarrel 18 = .ok (.iload_n 1, 1) := by decide +kernel
theorem dX9_quarrel_19 : decode cX9_quarrel 19 = .ok (.if_icmp .ge 17, 3) := by decide +kernel
theorem dX9_quarrel_22 : decode cX9_quarrel 22 = .ok (.aload_n 0, 1) := by decide +kernel
theorem dX9_quarrel_23 : decode cX9_quarrel 23 = .ok (.getfield 43, 3) := by decide +kernel
theorem dX9_quarrel_26 : decode cX9_quarrel 26 = .ok (.iload_n 3, 1) := by decide +kernel
theorem dX9_quarrel_27 : decode cX9_quarrel 27 = .ok (.iaload, 1) := by decide +kernel
theorem dX9_quarrel_28 : decode cX9_quarrel 28 = .ok (.iload_n 1, 1) := by decide +kernel
theorem dX9_quarrel_29 : decode cX9_quarrel 29 = .ok (.if_icmp .ge 7, 3) := by decide +kernel
theorem dX9_quarrel_32 : decode cX9_quarrel 32 = .ok (.iconst 1, 1) := by decide +kernel
theorem dX9_quarrel_33 : decode cX9_quarrel 33 = .ok (.goto 4, 3) := by decide +kernel
theorem dX9_quarrel_36 : decode cX9_quarrel 36 = .ok (.iconst 0, 1) := by decide +kernel
theorem dX9_quarrel_37 : decode cX9_quarrel 37 = .ok (.istore 4, 2) := by decide +kernel
theorem dX9_quarrel_39 : decode cX9_quarrel 39 = .ok (.iload_n 2, 1) := by decide +kernel
theorem dX9_quarrel_40 : decode cX9_quarrel 40 = .ok (.iload 4, 2) := by decide +kernel
theorem dX9_quarrel_42 : decode cX9_quarrel 42 = .ok (.ifCond .eq 37, 3) := by decide +kernel
theorem dX9_quarrel_45 : decode cX9_quarrel 45 = .ok (.aload_n 0, 1) := by decide +kernel
theorem dX9_quarrel_46 : decode cX9_quarrel 46 = .ok (.getfield 70, 3) := by decide +kernel
theorem dX9_quarrel_49 : decode cX9_quarrel 49 = .ok (.aload_n 0, 1) := by decide +kernel
theorem dX9_quarrel_50 : decode cX9_quarrel 50 = .ok (.getfield 40, 3) := by decide +kernel
theorem dX9_quarrel_53 : decode cX9_quarrel 53 = .ok (.iload_n 3, 1) := by decide +kernel
theorem dX9_quarrel_54 : decode cX9_quarrel 54 = .ok (.iaload, 1) := by decide +kernel
theorem dX9_quarrel_55 : decode cX9_quarrel 55 = .ok (.iaload, 1) := by decide +kernel
theorem dX9_quarrel_56 : decode cX9_quarrel 56 = .ok (.aload_n 0, 1) := by decide +kernel
theorem dX9_quarrel_57 : decode cX9_quarrel 57 = .ok (.getfield 70, 3) := by decide +kernel
theorem dX9_quarrel_60 : decode cX9_quarrel 60 = .ok (.aload_n 0, 1) := by decide +kernel
theorem dX9_quarrel_61 : decode cX9_quarrel 61 = .ok (.getfield 43, 3) := by decide +kernel
theorem dX9_quarrel_64 : decode cX9_quarrel 64 = .ok (.iload_n 3, 1) := by decide +kernel
theorem dX9_quarrel_65 : decode cX9_quarrel 65 = .ok (.iaload, 1) := by decide +kernel
theorem dX9_quarrel_66 : decode cX9_quarrel 66 = .ok (.iaload, 1) := by decide +kernel
theorem dX9_quarrel_67 : decode cX9_quarrel 67 = .ok (.if_icmp .le 12, 3) := by decide +kernel
theorem dX9_quarrel_70 : decode cX9_quarrel 70 = .ok (.aload_n 0, 1) := by decide +kernel
theorem dX9_quarrel_71 : decode cX9_quarrel 71 = .ok (.getfield 46, 3) := by decide +kernel
theorem dX9_quarrel_74 : decode cX9_quarrel 74 = .ok (.iload_n 3, 1) := by decide +kernel
theorem dX9_quarrel_75 : decode cX9_quarrel 75 = .ok (.iaload, 1) := by decide +kernel
theorem dX9_quarrel_76 : decode cX9_quarrel 76 = .ok (.goto 4, 3) := by decide +kernel
theorem dX9_quarrel_79 : decode cX9_quarrel 79 = .ok (.iconst 0, 1) := by decide +kernel
theorem dX9_quarrel_80 : decode cX9_quarrel 80 = .ok (.iadd, 1) := by decide +kernel
theorem dX9_quarrel_81 : decode cX9_quarrel 81 = .ok (.istore_n 2, 1) := by decide +kernel
theorem dX9_quarrel_82 : decode cX9_quarrel 82 = .ok (.iinc 3 1, 3) := by decide +kernel
theorem dX9_quarrel_85 : decode cX9_quarrel 85 = .ok (.goto (-81), 3) := by decide +kernel
theorem dX9_quarrel_88 : decode cX9_quarrel 88 = .ok (.iload_n 2, 1) := by decide +kernel
theorem dX9_quarrel_89 : decode cX9_quarrel 89 = .ok (.ireturn, 1) := by decide +kernel
theorem dX9_order_0 : decode cX9_order 0 = .ok (.iload_n 1, 1) := by decide +kernel
theorem dX9_order_1 : decode cX9_order 1 = .ok (.iconst 2, 1) := by decide +kernel
theorem dX9_order_2 : decode cX9_order 2 = .ok (.bipush 6, 2) := by decide +kernel
theorem dX9_order_4 : decode cX9_order 4 = .ok (.invokestatic 77, 3) := by decide +kernel
theorem dX9_order_7 : decode cX9_order 7 = .ok (.ifCond .eq 9, 3) := by decide +kernel
theorem dX9_order_10 : decode cX9_order 10 = .ok (.iload_n 2, 1) := by decide +kernel
theorem dX9_order_11 : decode cX9_order 11 = .ok (.bipush (-2), 2) := by decide +kernel
theorem dX9_order_13 : decode cX9_order 13 = .ok (.if_icmp .ge 5, 3) := by decide +kernel
theorem dX9_order_16 : decode cX9_order 16 = .ok (.iconst (-1), 1) := by decide +kernel
theorem dX9_order_17 : decode cX9_order 17 = .ok (.ireturn, 1) := by decide +kernel
theorem dX9_order_18 : decode cX9_order 18 = .ok (.iconst 1, 1) := by decide +kernel
theorem dX9_order_19 : decode cX9_order 19 = .ok (.istore_n 3, 1) := by decide +kernel
theorem dX9_order_20 : decode cX9_order 20 = .ok (.iconst 2, 1) := by decide +kernel
theorem dX9_order_21 : decode cX9_order 21 = .ok (.istore 4, 2) := by decide +kernel
theorem dX9_order_23 : decode cX9_order 23 = .ok (.iload 4, 2) := by decide +kernel
theorem dX9_order_25 : decode cX9_order 25 = .ok (.iload_n 1, 1) := by decide +kernel
theorem dX9_order_26 : decode cX9_order 26 = .ok (.if_icmp .gt 14, 3) := by decide +kernel
theorem dX9_order_29 : decode cX9_order 29 = .ok (.iload_n 3, 1) := by decide +kernel
theorem dX9_order_30 : decode cX9_order 30 = .ok (.iload 4, 2) := by decide +kernel
theorem dX9_order_32 : decode cX9_order 32 = .ok (.imul, 1) := by decide +kernel
theorem dX9_order_33 : decode cX9_order 33 = .ok (.istore_n 3, 1) := by decide +kernel
theorem dX9_order_34 : decode cX9_order 34 = .ok (.iinc 4 1, 3) := by decide +kernel
theorem dX9_order_37 : decode cX9_order 37 = .ok (.goto (-14), 3) := by decide +kernel
theorem dX9_order_40 : decode cX9_order 40 = .ok (.ldc 122, 2) := by decide +kernel
theorem dX9_order_42 : decode cX9_order 42 = .ok (.istore 4, 2) := by decide +kernel
theorem dX9_order_44 : decode cX9_order 44 = .ok (.iconst 0, 1) := by decide +kernel
theorem dX9_order_45 : decode cX9_order 45 = .ok (.istore 5, 2) := by decide +kernel
theorem dX9_order_47 : decode cX9_order 47 = .ok (.iconst 0, 1) := by decide +kernel
theorem dX9_order_48 : decode cX9_order 48 = .ok (.istore 6, 2) := by decide +kernel
theorem dX9_order_50 : decode cX9_order 50 = .ok (.iconst 0, 1) := by decide +kernel
theorem dX9_order_51 : decode cX9_order 51 = .ok (.istore 7, 2) := by decide +kernel
theorem dX9_order_53 : decode cX9_order 53 = .ok (.iload 7, 2) := by decide +kernel
theorem dX9_order_55 : decode cX9_order 55 = .ok (.iload_n 3, 1) := by decide +kernel
theorem dX9_order_56 : decode cX9_order 56 = .ok (.if_icmp .ge 86, 3) := by decide +kernel
theorem dX9_order_59 : decode cX9_order 59 = .ok (.aload_n 0, 1) := by decide +kernel
theorem dX9_order_60 : decode cX9_order 60 = .ok (.iload_n 1, 1) := by decide +kernel
theorem dX9_order_61 : decode cX9_order 61 = .ok (.iload 7, 2) := by decide +kernel
theorem dX9_order_63 : decode cX9_order 63 = .ok (.invokevirtual 149, 3) := by decide +kernel
theorem dX9_order_66 : decode cX9_order 66 = .ok (.istore 8, 2) := by decide +kernel
theorem dX9_order_68 : decode cX9_order 68 = .ok (.aload_n 0, 1) := by decide +kernel
theorem dX9_order_69 : decode cX9_order 69 = .ok (.iload_n 1, 1) := by decide +kernel
theorem dX9_order_70 : decode cX9_order 70 = .ok (.invokevirtual 152, 3) := by decide +kernel
theorem dX9_order_73 : decode cX9_order 73 = .ok (.istore 9, 2) := by decide +kernel
theorem dX9_order_75 : decode cX9_order 75 = .ok (.iload 9, 2) := by decide +kernel
theorem dX9_order_77 : decode cX9_order 77 = .ok (.iload 4, 2) := by decide +kernel
theorem dX9_order_79 : decode cX9_order 79 = .ok (.if_icmp .ge 8, 3) := by decide +kernel
theorem dX9_order_82 : decode cX9_order 82 = .ok (.iload 8, 2) := by decide +kernel
theorem dX9_order_84 : decode cX9_order 84 = .ok (.goto 5, 3) := by decide +kernel
theorem dX9_order_87 : decode cX9_order 87 = .ok (.iload 6, 2) := by decide +kernel
theorem dX9_order_89 : decode cX9_order 89 = .ok (.istore 6, 2) := by decide +kernel
theorem dX9_order_91 : decode cX9_order 91 = .ok (.iload 9, 2) := by decide +kernel
theorem dX9_order_93 : decode cX9_order 93 = .ok (.iload 4, 2) := by decide +kernel
theorem dX9_order_95 : decode cX9_order 95 = .ok (.if_icmp .ge 7, 3) := by decide +kernel
theorem dX9_order_98 : decode cX9_order 98 = .ok (.iconst 1, 1) := by decide +kernel
theorem dX9_order_99 : decode cX9_order 99 = .ok (.goto 19, 3) := by decide +kernel
theorem dX9_order_102 : decode cX9_order 102 = .ok (.iload 9, 2) := by decide +kernel
theorem dX9_order_104 : decode cX9_order 104 = .ok (.iload 4, 2) := by decide +kernel
theorem dX9_order_106 : decode cX9_order 106 = .ok (.if_icmp .ne 10, 3) := by decide +kernel
theorem dX9_order_109 : decode cX9_order 109 = .ok (.iload 5, 2) := by decide +kernel
theorem dX9_order_111 : decode cX9_order 111 = .ok (.iconst 1, 1) := by decide +kernel
theorem dX9_order_112 : decode cX9_order 112 = .ok (.iadd, 1) := by decide +kernel
theorem dX9_order_113 : decode cX9_order 113 = .ok (.goto 5, 3) := by decide +kernel
theorem dX9_order_116 : decode cX9_order 116 = .ok (.iload 5, 2) := by decide +kernel
theorem dX9_order_118 : decode cX9_order 118 = .ok (.istore 5, 2) := by decide +kernel
theorem dX9_order_120 : decode cX9_order 120 = .ok (.iload 9, 2) := by decide +kernel
theorem dX9_order_122 : decode cX9_order 122 = .ok (.iload 4, 2) := by decide +kernel
theorem dX9_order_124 : decode cX9_order 124 = .ok (.if_icmp .ge 8, 3) := by decide +kernel
theorem dX9_order_127 : decode cX9_order 127 = .ok (.iload 9, 2) := by decide +kernel
theorem dX9_order_129 : decode cX9_order 129 = .ok (.goto 5, 3) := by decide +kernel
theorem dX9_order_132 : decode cX9_order 132 = .ok (.iload 4, 2) := by decide +kernel
theorem dX9_order_134 : decode cX9_order 134 = .ok (.istore 4, 2) := by decide +kernel
theorem dX9_order_136 : decode cX9_order 136 = .ok (.iinc 7 1, 3) := by decide +kernel
theorem dX9_order_139 : decode cX9_order 139 = .ok (.goto (-86), 3) := by decide +kernel
theorem dX9_order_142 : decode cX9_order 142 = .ok (.iload_n 2, 1) := by decide +kernel
theorem dX9_order_143 : decode cX9_order 143 = .ok (.iconst (-1), 1) := by decide +kernel
theorem dX9_order_144 : decode cX9_order 144 = .ok (.if_icmp .ne 8, 3) := by decide +kernel
theorem dX9_order_147 : decode cX9_order 147 = .ok (.iload 4, 2) := by decide +kernel
theorem dX9_order_149 : decode cX9_order 149 = .ok (.goto 33, 3) := by decide +kernel
theorem dX9_order_152 : decode cX9_order 152 = .ok (.iload_n 2, 1) := by decide +kernel
theorem dX9_order_153 : decode cX9_order 153 = .ok (.bipush (-2), 2) := by decide +kernel
theorem dX9_order_155 : decode cX9_order 155 = .ok (.if_icmp .ne 8, 3) := by decide +kernel
theorem dX9_order_158 : decode cX9_order 158 = .ok (.iload 5, 2) := by decide +kernel
theorem dX9_order_160 : decode cX9_order 160 = .ok (.goto 22, 3) := by decide +kernel
theorem dX9_order_163 : decode cX9_order 163 = .ok (.iload_n 2, 1) := by decide +kernel
theorem dX9_order_164 : decode cX9_order 164 = .ok (.iload_n 1, 1) := by decide +kernel
theorem dX9_order_165 : decode cX9_order 165 = .ok (.if_icmp .ge 15, 3) := by decide +kernel
theorem dX9_order_168 : decode cX9_order 168 = .ok (.iload 6, 2) := by decide +kernel
theorem dX9_order_170 : decode cX9_order 170 = .ok (.iconst 3, 1) := by decide +kernel
theorem dX9_order_171 : decode cX9_order 171 = .ok (.iload_n 2, 1) := by decide +kernel
theorem dX9_order_172 : decode cX9_order 172 = .ok (.imul, 1) := by decide +kernel
theorem dX9_order_173 : decode cX9_order 173 = .ok (.ishr, 1) := by decide +kernel
theorem dX9_order_174 : decode cX9_order 174 = .ok (.bipush 7, 2) := by decide +kernel
theorem dX9_order_176 : decode cX9_order 176 = .ok (.iand, 1) := by decide +kernel
theorem dX9_order_177 : decode cX9_order 177 = .ok (.goto 5, 3) := by decide +kernel
theorem dX9_order_180 : decode cX9_order 180 = .ok (.bipush (-4), 2) := by decide +kernel
theorem dX9_order_182 : decode cX9_order 182 = .ok (.ireturn, 1) := by decide +kernel
theorem dX9_undo_0 : decode cX9_undo 0 = .ok (.aload_n 0, 1) := by decide +kernel
theorem dX9_undo_1 : decode cX9_undo 1 = .ok (.getfield 95, 3) := by decide +kernel
theorem dX9_undo_4 : decode cX9_undo 4 = .ok (.ifCond .ne 6, 3) := by decide +kernel
theorem dX9_undo_7 : decode cX9_undo 7 = .ok (.bipush (-2), 2) := by decide +kernel
theorem dX9_undo_9 : decode cX9_undo 9 = .ok (.ireturn, 1) := by decide +kernel
theorem dX9_undo_10 : decode cX9_undo 10 = .ok (.aload_n 0, 1) := by decide +kernel
theorem dX9_undo_11 : decode cX9_undo 11 = .ok (.dup, 1) := by decide +kernel
theorem dX9_undo_12 : decode cX9_undo 12 = .ok (.getfield 95, 3) := by decide +kernel
theorem dX9_undo_15 : decode cX9_undo 15 = .ok (.iconst 1, 1) := by decide +kernel
theorem dX9_undo_16 : decode cX9_undo 16 = .ok (.isub, 1) := by decide +kernel
theorem dX9_undo_17 : decode cX9_undo 17 = .ok (.putfield 95, 3) := by decide +kernel
theorem dX9_undo_20 : decode cX9_undo 20 = .ok (.aload_n 0, 1) := by decide +kernel
theorem dX9_undo_21 : decode cX9_undo 21 = .ok (.getfield 16, 3) := by decide +kernel
theorem dX9_undo_24 : decode cX9_undo 24 = .ok (.aload_n 0, 1) := by decide +kernel
theorem dX9_undo_25 : decode cX9_undo 25 = .ok (.getfield 49, 3) := by decide +kernel
theorem dX9_undo_28 : decode cX9_undo 28 = .ok (.aload_n 0, 1) := by decide +kernel
theorem dX9_undo_29 : decode cX9_undo 29 = .ok (.getfield 95, 3) := by decide +kernel
theorem dX9_undo_32 : decode cX9_undo 32 = .ok (.iaload, 1) := by decide +kernel
theorem dX9_undo_33 : decode cX9_undo 33 = .ok (.aload_n 0, 1) := by decide +kernel
theorem dX9_undo_34 : decode cX9_undo 34 = .ok (.getfield 52, 3) := by decide +kernel
theorem dX9_undo_37 : decode cX9_undo 37 = .ok (.aload_n 0, 1) := by decide +kernel
theorem dX9_undo_38 : decode cX9_undo 38 = .ok (.getfield 95, 3) := by decide +kernel
theorem dX9_undo_41 : decode cX9_undo 41 = .ok (.iaload, 1) := by decide +kernel
theorem dX9_undo_42 : decode cX9_undo 42 = .ok (.iastore, 1) := by decide +kernel
theorem dX9_undo_43 : decode cX9_undo 43 = .ok (.aload_n 0, 1) := by decide +kernel
theorem dX9_undo_44 : decode cX9_undo 44 = .ok (.getfield 49, 3) := by decide +kernel
theorem dX9_undo_47 : decode cX9_undo 47 = .ok (.aload_n 0, 1) := by decide +kernel
theorem dX9_undo_48 : decode cX9_undo 48 = .ok (.getfield 95, 3) := by decide +kernel
theorem dX9_undo_51 : decode cX9_undo 51 = .ok (.iaload, 1) := by decide +kernel
theorem dX9_undo_52 : decode cX9_undo 52 = .ok (.bipush 40, 2) := by decide +kernel
theorem dX9_undo_54 : decode cX9_undo 54 = .ok (.idiv, 1) := by decide +kernel
theorem dX9_undo_55 : decode cX9_undo 55 = .ok (.bipush 100, 2) := by decide +kernel
theorem dX9_undo_57 : decode cX9_undo 57 = .ok (.imul, 1) := by decide +kernel
theorem dX9_undo_58 : decode cX9_undo 58 = .ok (.aload_n 0, 1) := by decide +kernel
theorem dX9_undo_59 : decode cX9_undo 59 = .ok (.getfield 49, 3) := by decide +kernel
theorem dX9_undo_62 : decode cX9_undo 62 = .ok (.aload_n 0, 1) := by decide +kernel
theorem dX9_undo_63 : decode cX9_undo 63 = .ok (.getfield 95, 3) := by decide +kernel
theorem dX9_undo_66 : decode cX9_undo 66 = .ok (.iaload, 1) := by decide +kernel
theorem dX9_undo_67 : decode cX9_undo 67 = .ok (.bipush 40, 2) := by decide +kernel
theorem dX9_undo_69 : decode cX9_undo 69 = .ok (.irem, 1) := by decide +kernel
theorem dX9_undo_70 : decode cX9_undo 70 = .ok (.iadd, 1) := by decide +kernel
theorem dX9_undo_71 : decode cX9_undo 71 = .ok (.ireturn, 1) := by decide +kernel
theorem dX9_count_0 : decode cX9_count 0 = .ok (.iload_n 1, 1) := by decide +kernel
theorem dX9_count_1 : decode cX9_count 1 = .ok (.tableswitch 63 0 4 #[35, 40, 48, 53, 58], 35) := by decide +kernel
theorem dX9_count_36 : decode cX9_count 36 = .ok (.aload_n 0, 1) := by decide +kernel
theorem dX9_count_37 : decode cX9_count 37 = .ok (.getfield 73, 3) := by decide +kernel
theorem dX9_count_40 : decode cX9_count 40 = .ok (.ireturn, 1) := by decide +kernel
theorem dX9_count_41 : decode cX9_count 41 = .ok (.aload_n 0, 1) := by decide +kernel
theorem dX9_count_42 : decode cX9_count 42 = .ok (.getfield 7, 3) := by decide +kernel
theorem dX9_count_45 : decode cX9_count 45 = .ok (.bipush 6, 2) := by decide +kernel
theorem dX9_count_47 : decode cX9_count 47 = .ok (.iaload, 1) := by decide +kernel
theorem dX9_count_48 : decode cX9_count 48 = .ok (.ireturn, 1) := by decide +kernel
theorem dX9_count_49 : decode cX9_count 49 = .ok (.aload_n 0, 1) := by decide +kernel
theorem dX9_count_50 : decode cX9_count 50 = .ok (.getfield 140, 3) := by decide +kernel
theorem dX9_count_53 : decode cX9_count 53 = .ok (.ireturn, 1) := by decide +kernel
theorem dX9_count_54 : decode cX9_count 54 = .ok (.aload_n 0, 1) := by decide +kernel
theorem dX9_count_55 : decode cX9_count 55 = .ok (.getfield 146, 3) := by decide +kernel
theorem dX9_count_58 : decode cX9_count 58 = .ok (.ireturn, 1) := by decide +kernel
theorem dX9_count_59 : decode cX9_count 59 = .ok (.aload_n 0, 1) := by decide +kernel
theorem dX9_count_60 : decode cX9_count 60 = .ok (.getfield 95, 3) := by decide +kernel
theorem dX9_count_63 : decode cX9_count 63 = .ok (.ireturn, 1) := by decide +kernel
theorem dX9_count_64 : decode cX9_count 64 = .ok (.iconst (-1), 1) := by decide +kernel
theorem dX9_count_65 : decode cX9_count 65 = .ok (.ireturn, 1) := by decide +kernel
end
section
theorem dL_law_0 : decode cL_law 0 = .ok (.new 7, 3) := by decide +kernel
theorem dL_law_3 : decode cL_law 3 = .ok (.dup, 1) := by decide +kernel
theorem dL_law_4 : decode cL_law 4 = .ok (.invokespecial 9, 3) := by decide +kernel
theorem dL_law_7 : decode cL_law 7 = .ok (.astore_n 1, 1) := by decide +kernel
theorem dL_law_8 : decode cL_law 8 = .ok (.new 10, 3) := by decide +kernel
theorem dL_law_11 : decode cL_law 11 = .ok (.dup, 1) := by decide +kernel
theorem dL_law_12 : decode cL_law 12 = .ok (.invokespecial 12, 3) := by decide +kernel
theorem dL_law_15 : decode cL_law 15 = .ok (.astore_n 2, 1) := by decide +kernel
theorem dL_law_16 : decode cL_law 16 = .ok (.iconst 0, 1) := by decide +kernel
theorem dL_law_17 : decode cL_law 17 = .ok (.istore_n 3, 1) := by decide +kernel
theorem dL_law_18 : decode cL_law 18 = .ok (.iload_n 3, 1) := by decide +kernel
theorem dL_law_19 : decode cL_law 19 = .ok (.aload_n 0, 1) := by decide +kernel
theorem dL_law_20 : decode cL_law 20 = .ok (.arraylength, 1) := by decide +kernel
theorem dL_law_21 : decode cL_law 21 = .ok (.iconst 5, 1) := by decide +kernel
theorem dL_law_22 : decode cL_law 22 = .ok (.isub, 1) := by decide +kernel
theorem dL_law_23 : decode cL_law 23 = .ok (.if_icmp .gt 761, 3) := by decide +kernel
theorem dL_law_26 : decode cL_law 26 = .ok (.aload_n 0, 1) := by decide +kernel
theorem dL_law_27 : decode cL_law 27 = .ok (.iload_n 3, 1) := by decide +kernel
theorem dL_law_28 : decode cL_law 28 = .ok (.iaload, 1) := by decide +kernel
theorem dL_law_29 : decode cL_law 29 = .ok (.bipush 31, 2) := by decide +kernel
theorem dL_law_31 : decode cL_law 31 = .ok (.iand, 1) := by decide +kernel
theorem dL_law_32 : decode cL_law 32 = .ok (.tableswitch 746 0 19 #[96, 109, 162, 235, 278, 321, 354, 367, 400, 443, 476, 499, 522, 545, 598, 621, 664, 677, 710, 723], 96) := by decide +kernel
theorem dL_law_128 : decode cL_law 128 = .ok (.aload_n 1, 1) := by decide +kernel
theorem dL_law_129 : decode cL_law 129 = .ok (.invokevirtual 13, 3) := by decide +kernel
theorem dL_law_132 : decode cL_law 132 = .ok (.aload_n 2, 1) := by decide +kernel
theorem dL_law_133 : decode cL_law 133 = .ok (.invokevirtual 17, 3) := by decide +kernel
theorem dL_law_136 : decode cL_law 136 = .ok (.if_icmp .eq 642, 3) := by decide +kernel
theorem dL_law_139 : decode cL_law 139 = .ok (.iconst 0, 1) := by decide +kernel
theorem dL_law_140 : decode cL_law 140 = .ok (.ireturn, 1) := by decide +kernel
theorem dL_law_141 : decode cL_law 141 = .ok (.aload_n 1, 1) := by decide +kernel
theorem dL_law_142 : decode cL_law 142 = .ok (.aload_n 0, 1) := by decide +kernel
theorem dL_law_143 : decode cL_law 143 = .ok (.iload_n 3, 1) := by decide +kernel
theorem dL_law_144 : decode cL_law 144 = .ok (.iconst 1, 1) := by decide +kernel
theorem dL_law_145 : decode cL_law 145 = .ok (.iadd, 1) := by decide +kernel
theorem dL_law_146 : decode cL_law 146 = .ok (.iaload, 1) := by decide +kernel
theorem dL_law_147 : decode cL_law 147 = .ok (.aload_n 0, 1) := by decide +kernel
theorem dL_law_148 : decode cL_law 148 = .ok (.iload_n 3, 1) := by decide +kernel
theorem dL_law_149 : decode cL_law 149 = .ok (.iconst 2, 1) := by decide +kernel
theorem dL_law_150 : decode cL_law 150 = .ok (.iadd, 1) := by decide +kernel
theorem dL_law_151 : decode cL_law 151 = .ok (.iaload, 1) := by decide +kernel
theorem dL_law_152 : decode cL_law 152 = .ok (.aload_n 0, 1) := by decide +kernel
theorem dL_law_153 : decode cL_law 153 = .ok (.iload_n 3, 1) := by decide +kernel
theorem dL_law_154 : decode cL_law 154 = .ok (.iconst 3, 1) := by decide +kernel
theorem dL_law_155 : decode cL_law 155 = .ok (.iadd, 1) := by decide +kernel
theorem dL_law_156 : decode cL_law 156 = .ok (.iaload, 1) := by decide +kernel
theorem dL_law_157 : decode cL_law 157 = .ok (.aload_n 0, 1) := by decide +kernel
theorem dL_law_158 : decode cL_law 158 = .ok (.iload_n 3, 1) := by decide +kernel
theorem dL_law_159 : decode cL_law 159 = .ok (.iconst 4, 1) := by decide +kernel
theorem dL_law_160 : decode cL_law 160 = .ok (.iadd, 1) := by decide +kernel
theorem dL_law_161 : decode cL_law 161 = .ok (.iaload, 1) := by decide +kernel
theorem dL_law_162 : decode cL_law 162 = .ok (.invokevirtual 18, 3) := by decide +kernel
theorem dL_law_165 : decode cL_law 165 = .ok (.aload_n 2, 1) := by decide +kernel
theorem dL_law_166 : decode cL_law 166 = .ok (.aload_n 0, 1) := by decide +kernel
theorem dL_law_167 : decode cL_law 167 = .ok (.iload_n 3, 1) := by decide +kernel
theorem dL_law_168 : decode cL_law 168 = .ok (.iconst 1, 1) := by decide +kernel
theorem dL_law_169 : decode cL_law 169 = .ok (.iadd, 1) := by decide +kernel
theorem dL_law_170 : decode cL_law 170 = .ok (.iaload, 1) := by decide +kernel
theorem dL_law_171 : decode cL_law 171 = .ok (.aload_n 0, 1) := by decide +kernel
theorem dL_law_172 : decode cL_law 172 = .ok (.iload_n 3, 1) := by decide +kernel
theorem dL_law_173 : decode cL_law 173 = .ok (.iconst 2, 1) := by decide +kernel
theorem dL_law_174 : decode cL_law 174 = .ok (.iadd, 1) := by decide +kernel
theorem dL_law_175 : decode cL_law 175 = .ok (.iaload, 1) := by decide +kernel
theorem dL_law_176 : decode cL_law 176 = .ok (.aload_n 0, 1) := by decide +kernel
theorem dL_law_177 : decode cL_law 177 = .ok (.iload_n 3, 1) := by decide +kernel
theorem dL_law_178 : decode cL_law 178 = .ok (.iconst 3, 1) := by decide +kernel
theorem dL_law_179 : decode cL_law 179 = .ok (.iadd, 1) := by decide +kernel
theorem dL_law_180 : decode cL_law 180 = .ok (.iaload, 1) := by decide +kernel
theorem dL_law_181 : decode cL_law 181 = .ok (.aload_n 0, 1) := by decide +kernel
theorem dL_law_182 : decode cL_law 182 = .ok (.iload_n 3, 1) := by decide +kernel
theorem dL_law_183 : decode cL_law 183 = .ok (.iconst 4, 1) := by decide +kernel
theorem dL_law_184 : decode cL_law 184 = .ok (.iadd, 1) := by decide +kernel
theorem dL_law_185 : decode cL_law 185 = .ok (.iaload, 1) := by decide +kernel
theorem dL_law_186 : decode cL_law 186 = .ok (.invokevirtual 22, 3) := by decide +kernel
theorem dL_law_189 : decode cL_law 189 = .ok (.if_icmp .eq 589, 3) := by decide +kernel
theorem dL_law_192 : decode cL_law 192 = .ok (.iconst 0, 1) := by decide +kernel
theorem dL_law_193 : decode cL_law 193 = .ok (.ireturn, 1) := by decide +kernel
theorem dL_law_194 : decode cL_law 194 = .ok (.aload_n 1, 1) := by decide +kernel
theorem dL_law_195 : decode cL_law 195 = .ok (.aload_n 0, 1) := by decide +kernel
theorem dL_law_196 : decode cL_law 196 = .ok (.iload_n 3, 1) := by decide +kernel
theorem dL_law_197 : decode cL_law 197 = .ok (.iconst 1, 1) := by decide +kernel
theorem dL_law_198 : decode cL_law 198 = .ok (.iadd, 1) := by decide +kernel
theorem dL_law_199 : decode cL_law 199 = .ok (.iaload, 1) := by decide +kernel
theorem dL_law_200 : decode cL_law 200 = .ok (.aload_n 0, 1) := by decide +kernel
theorem dL_law_201 : decode cL_law 201 = .ok (.iload_n 3, 1) := by decide +kernel
theorem dL_law_202 : decode cL_law 202 = .ok (.iconst 2, 1) := by decide +kernel
theorem dL_law_203 : decode cL_law 203 = .ok (.iadd, 1) := by decide +kernel
theorem dL_law_204 : decode cL_law 204 = .ok (.iaload, 1) := by decide +kernel
theorem dL_law_205 : decode cL_law 205 = .ok (.aload_n 0, 1) := by decide +kernel
theorem dL_law_206 : decode cL_law 206 = .ok (.iload_n 3, 1) := by decide +kernel
theorem dL_law_207 : decode cL_law 207 = .ok (.iconst 3, 1) := by decide +kernel
theorem dL_law_208 : decode cL_law 208 = .ok (.iadd, 1) := by decide +kernel
theorem dL_law_209 : decode cL_law 209 = .ok (.iaload, 1) := by decide +kernel
theorem dL_law_210 : decode cL_law 210 = .ok (.i2l, 1) := by decide +kernel
theorem dL_law_211 : decode cL_law 211 = .ok (.bipush 32, 2) := by decide +kernel
theorem dL_law_213 : decode cL_law 213 = .ok (.lshl, 1) := by decide +kernel
theorem dL_law_214 : decode cL_law 214 = .ok (.aload_n 0, 1) := by decide +kernel
theorem dL_law_215 : decode cL_law 215 = .ok (.iload_n 3, 1) := by decide +kernel
theorem dL_law_216 : decode cL_law 216 = .ok (.iconst 4, 1) := by decide +kernel
theorem dL_law_217 : decode cL_law 217 = .ok (.iadd, 1) := by decide +kernel
theorem dL_law_218 : decode cL_law 218 = .ok (.iaload, 1) := by decide +kernel
theorem dL_law_219 : decode cL_law 219 = .ok (.i2l, 1) := by decide +kernel
theorem dL_law_220 : decode cL_law 220 = .ok (.ldc2_w 23, 3) := by decide +kernel
theorem dL_law_223 : decode cL_law 223 = .ok (.land, 1) := by decide +kernel
theorem dL_law_224 : decode cL_law 224 = .ok (.lor, 1) := by decide +kernel
theorem dL_law_225 : decode cL_law 225 = .ok (.invokevirtual 25, 3) := by decide +kernel
theorem dL_law_228 : decode cL_law 228 = .ok (.aload_n 2, 1) := by decide +kernel
theorem dL_law_229 : decode cL_law 229 = .ok (.aload_n 0, 1) := by decide +kernel
theorem dL_law_230 : decode cL_law 230 = .ok (.iload_n 3, 1) := by decide +kernel
theorem dL_law_231 : decode cL_law 231 = .ok (.iconst 1, 1) := by decide +kernel
theorem dL_law_232 : decode cL_law 232 = .ok (.iadd, 1) := by decide +kernel
theorem dL_law_233 : decode cL_law 233 = .ok (.iaload, 1) := by decide +kernel
theorem dL_law_234 : decode cL_law 234 = .ok (.aload_n 0, 1) := by decide +kernel
theorem dL_law_235 : decode cL_law 235 = .ok (.iload_n 3, 1) := by decide +kernel
theorem dL_law_236 : decode cL_law 236 = .ok (.iconst 2, 1) := by decide +kernel
theorem dL_law_237 : decode cL_law 237 = .ok (.iadd, 1) := by decide +kernel
theorem dL_law_238 : decode cL_law 238 = .ok (.iaload, 1) := by decide +kernel
theorem dL_law_239 : decode cL_law 239 = .ok (.aload_n 0, 1) := by decide +kernel
theorem dL_law_240 : decode cL_law 240 = .ok (.iload_n 3, 1) := by decide +kernel
theorem dL_law_241 : decode cL_law 241 = .ok (.iconst 3, 1) := by decide +kernel
theorem dL_law_242 : decode cL_law 242 = .ok (.iadd, 1) := by decide +kernel
theorem dL_law_243 : decode cL_law 243 = .ok (.iaload, 1) := by decide +kernel
theorem dL_law_244 : decode cL_law 244 = .ok (.i2l, 1) := by decide +kernel
theorem dL_law_245 : decode cL_law 245 = .ok (.bipush 32, 2) := by decide +kernel
theorem dL_law_247 : decode cL_law 247 = .ok (.lshl, 1) := by decide +kernel
theorem dL_law_248 : decode cL_law 248 = .ok (.aload_n 0, 1) := by decide +kernel
theorem dL_law_249 : decode cL_law 249 = .ok (.iload_n 3, 1) := by decide +kernel
theorem dL_law_250 : decode cL_law 250 = .ok (.iconst 4, 1) := by decide +kernel
theorem dL_law_251 : decode cL_law 251 = .ok (.iadd, 1) := by decide +kernel
theorem dL_law_252 : decode cL_law 252 = .ok (.iaload, 1) := by decide +kernel
theorem dL_law_253 : decode cL_law 253 = .ok (.i2l, 1) := by decide +kernel
theorem dL_law_254 : decode cL_law 254 = .ok (.ldc2_w 23, 3) := by decide +kernel
theorem dL_law_257 : decode cL_law 257 = .ok (.land, 1) := by decide +kernel
theorem dL_law_258 : decode cL_law 258 = .ok (.lor, 1) := by decide +kernel
theorem dL_law_259 : decode cL_law 259 = .ok (.invokevirtual 29, 3) := by decide +kernel
theorem dL_law_262 : decode cL_law 262 = .ok (.if_icmp .eq 516, 3) := by decide +kernel
theorem dL_law_265 : decode cL_law 265 = .ok (.iconst 0, 1) := by decide +kernel
theorem dL_law_266 : decode cL_law 266 = .ok (.ireturn, 1) := by decide +kernel
theorem dL_law_267 : decode cL_law 267 = .ok (.aload_n 1, 1) := by decide +kernel
theorem dL_law_268 : decode cL_law 268 = .ok (.aload_n 0, 1) := by decide +kernel
theorem dL_law_269 : decode cL_law 269 = .ok (.iload_n 3, 1) := by decide +kernel
theorem dL_law_270 : decode cL_law 270 = .ok (.iconst 1, 1) := by decide +kernel
theorem dL_law_271 : decode cL_law 271 = .ok (.iadd, 1) := by decide +kernel
theorem dL_law_272 : decode cL_law 272 = .ok (.iaload, 1) := by decide +kernel
theorem dL_law_273 : decode cL_law 273 = .ok (.aload_n 0, 1) := by decide +kernel
theorem dL_law_274 : decode cL_law 274 = .ok (.iload_n 3, 1) := by decide +kernel
theorem dL_law_275 : decode cL_law 275 = .ok (.iconst 2, 1) := by decide +kernel
theorem dL_law_276 : decode cL_law 276 = .ok (.iadd, 1) := by decide +kernel
theorem dL_law_277 : decode cL_law 277 = .ok (.iaload, 1) := by decide +kernel
theorem dL_law_278 : decode cL_law 278 = .ok (.aload_n 0, 1) := by decide +kernel
theorem dL_law_279 : decode cL_law 279 = .ok (.iload_n 3, 1) := by decide +kernel
theorem dL_law_280 : decode cL_law 280 = .ok (.iconst 3, 1) := by decide +kernel
theorem dL_law_281 : decode cL_law 281 = .ok (.iadd, 1) := by decide +kernel
theorem dL_law_282 : decode cL_law 282 = .ok (.iaload, 1) := by decide +kernel
theorem dL_law_283 : decode cL_law 283 = .ok (.invokevirtual 30, 3) := by decide +kernel
theorem dL_law_286 : decode cL_law 286 = .ok (.aload_n 2, 1) := by decide +kernel
theorem dL_law_287 : decode cL_law 287 = .ok (.aload_n 0, 1) := by decide +kernel
theorem dL_law_288 : decode cL_law 288 = .ok (.iload_n 3, 1) := by decide +kernel
theorem dL_law_289 : decode cL_law 289 = .ok (.iconst 1, 1) := by decide +kernel
theorem dL_law_290 : decode cL_law 290 = .ok (.iadd, 1) := by decide +kernel
theorem dL_law_291 : decode cL_law 291 = .ok (.iaload, 1) := by decide +kernel
theorem dL_law_292 : decode cL_law 292 = .ok (.aload_n 0, 1) := by decide +kernel
theorem dL_law_293 : decode cL_law 293 = .ok (.iload_n 3, 1) := by decide +kernel
theorem dL_law_294 : decode cL_law 294 = .ok (.iconst 2, 1) := by decide +kernel
theorem dL_law_295 : decode cL_law 295 = .ok (.iadd, 1) := by decide +kernel
theorem dL_law_296 : decode cL_law 296 = .ok (.iaload, 1) := by decide +kernel
theorem dL_law_297 : decode cL_law 297 = .ok (.aload_n 0, 1) := by decide +kernel
theorem dL_law_298 : decode cL_law 298 = .ok (.iload_n 3, 1) := by decide +kernel
theorem dL_law_299 : decode cL_law 299 = .ok (.iconst 3, 1) := by decide +kernel
theorem dL_law_300 : decode cL_law 300 = .ok (.iadd, 1) := by decide +kernel
theorem dL_law_301 : decode cL_law 301 = .ok (.iaload, 1) := by decide +kernel
theorem dL_law_302 : decode cL_law 302 = .ok (.invokevirtual 34, 3) := by decide +kernel
theorem dL_law_305 : decode cL_law 305 = .ok (.if_icmp .eq 473, 3) := by decide +kernel
theorem dL_law_308 : decode cL_law 308 = .ok (.iconst 0, 1) := by decide +kernel
theorem dL_law_309 : decode cL_law 309 = .ok (.ireturn, 1) := by decide +kernel
theorem dL_law_310 : decode cL_law 310 = .ok (.aload_n 1, 1) := by decide +kernel
theorem dL_law_311 : decode cL_law 311 = .ok (.aload_n 0, 1) := by decide +kernel
theorem dL_law_312 : decode cL_law 312 = .ok (.iload_n 3, 1) := by decide +kernel
theorem dL_law_313 : decode cL_law 313 = .ok (.iconst 1, 1) := by decide +kernel
theorem dL_law_314 : decode cL_law 314 = .ok (.iadd, 1) := by decide +kernel
theorem dL_law_315 : decode cL_law 315 = .ok (.iaload, 1) := by decide +kernel
theorem dL_law_316 : decode cL_law 316 = .ok (.aload_n 0, 1) := by decide +kernel
theorem dL_law_317 : decode cL_law 317 = .ok (.iload_n 3, 1) := by decide +kernel
theorem dL_law_318 : decode cL_law 318 = .ok (.iconst 2, 1) := by decide +kernel
theorem dL_law_319 : decode cL_law 319 = .ok (.iadd, 1) := by decide +kernel
theorem dL_law_320 : decode cL_law 320 = .ok (.iaload, 1) := by decide +kernel
theorem dL_law_321 : decode cL_law 321 = .ok (.aload_n 0, 1) := by decide +kernel
theorem dL_law_322 : decode cL_law 322 = .ok (.iload_n 3, 1) := by decide +kernel
theorem dL_law_323 : decode cL_law 323 = .ok (.iconst 3, 1) := by decide +kernel
theorem dL_law_324 : decode cL_law 324 = .ok (.iadd, 1) := by decide +kernel
theorem dL_law_325 : decode cL_law 325 = .ok (.iaload, 1) := by decide +kernel
theorem dL_law_326 : decode cL_law 326 = .ok (.invokevirtual 35, 3) := by decide +kernel
theorem dL_law_329 : decode cL_law 329 = .ok (.aload_n 2, 1) := by decide +kernel
theorem dL_law_330 : decode cL_law 330 = .ok (.aload_n 0, 1) := by decide +kernel
theorem dL_law_331 : decode cL_law 331 = .ok (.iload_n 3, 1) := by decide +kernel
theorem dL_law_332 : decode cL_law 332 = .ok (.iconst 1, 1) := by decide +kernel
theorem dL_law_333 : decode cL_law 333 = .ok (.iadd, 1) := by decide +kernel
theorem dL_law_334 : decode cL_law 334 = .ok (.iaload, 1) := by decide +kernel
theorem dL_law_335 : decode cL_law 335 = .ok (.aload_n 0, 1) := by decide +kernel
theorem dL_law_336 : decode cL_law 336 = .ok (.iload_n 3, 1) := by decide +kernel
theorem dL_law_337 : decode cL_law 337 = .ok (.iconst 2, 1) := by decide +kernel
theorem dL_law_338 : decode cL_law 338 = .ok (.iadd, 1) := by decide +kernel
theorem dL_law_339 : decode cL_law 339 = .ok (.iaload, 1) := by decide +kernel
theorem dL_law_340 : decode cL_law 340 = .ok (.aload_n 0, 1) := by decide +kernel
theorem dL_law_341 : decode cL_law 341 = .ok (.iload_n 3, 1) := by decide +kernel
theorem dL_law_342 : decode cL_law 342 = .ok (.iconst 3, 1) := by decide +kernel
theorem dL_law_343 : decode cL_law 343 = .ok (.iadd, 1) := by decide +kernel
theorem dL_law_344 : decode cL_law 344 = .ok (.iaload, 1) := by decide +kernel
theorem dL_law_345 : decode cL_law 345 = .ok (.invokevirtual 38, 3) := by decide +kernel
theorem dL_law_348 : decode cL_law 348 = .ok (.if_icmp .eq 430, 3) := by decide +kernel
theorem dL_law_351 : decode cL_law 351 = .ok (.iconst 0, 1) := by decide +kernel
theorem dL_law_352 : decode cL_law 352 = .ok (.ireturn, 1) := by decide +kernel
theorem dL_law_353 : decode cL_law 353 = .ok (.aload_n 1, 1) := by decide +kernel
theorem dL_law_354 : decode cL_law 354 = .ok (.aload_n 0, 1) := by decide +kernel
theorem dL_law_355 : decode cL_law 355 = .ok (.iload_n 3, 1) := by decide +kernel
theorem dL_law_356 : decode cL_law 356 = .ok (.iconst 1, 1) := by decide +kernel
theorem dL_law_357 : decode cL_law 357 = .ok (.iadd, 1) := by decide +kernel
theorem dL_law_358 : decode cL_law 358 = .ok (.iaload, 1) := by decide +kernel
theorem dL_law_359 : decode cL_law 359 = .ok (.aload_n 0, 1) := by decide +kernel
theorem dL_law_360 : decode cL_law 360 = .ok (.iload_n 3, 1) := by decide +kernel
theorem dL_law_361 : decode cL_law 361 = .ok (.iconst 2, 1) := by decide +kernel
theorem dL_law_362 : decode cL_law 362 = .ok (.iadd, 1) := by decide +kernel
theorem dL_law_363 : decode cL_law 363 = .ok (.iaload, 1) := by decide +kernel
theorem dL_law_364 : decode cL_law 364 = .ok (.invokevirtual 39, 3) := by decide +kernel
theorem dL_law_367 : decode cL_law 367 = .ok (.aload_n 2, 1) := by decide +kernel
theorem dL_law_368 : decode cL_law 368 = .ok (.aload_n 0, 1) := by decide +kernel
theorem dL_law_369 : decode cL_law 369 = .ok (.iload_n 3, 1) := by decide +kernel
theorem dL_law_370 : decode cL_law 370 = .ok (.iconst 1, 1) := by decide +kernel
theorem dL_law_371 : decode cL_law 371 = .ok (.iadd, 1) := by decide +kernel
theorem dL_law_372 : decode cL_law 372 = .ok (.iaload, 1) := by decide +kernel
theorem dL_law_373 : decode cL_law 373 = .ok (.aload_n 0, 1) := by decide +kernel
theorem dL_law_374 : decode cL_law 374 = .ok (.iload_n 3, 1) := by decide +kernel
theorem dL_law_375 : decode cL_law 375 = .ok (.iconst 2, 1) := by decide +kernel
theorem dL_law_376 : decode cL_law 376 = .ok (.iadd, 1) := by decide +kernel
theorem dL_law_377 : decode cL_law 377 = .ok (.iaload, 1) := by decide +kernel
theorem dL_law_378 : decode cL_law 378 = .ok (.invokevirtual 43, 3) := by decide +kernel
theorem dL_law_381 : decode cL_law 381 = .ok (.if_icmp .eq 397, 3) := by decide +kernel
theorem dL_law_384 : decode cL_law 384 = .ok (.iconst 0, 1) := by decide +kernel
theorem dL_law_385 : decode cL_law 385 = .ok (.ireturn, 1) := by decide +kernel
theorem dL_law_386 : decode cL_law 386 = .ok (.aload_n 1, 1) := by decide +kernel
theorem dL_law_387 : decode cL_law 387 = .ok (.invokevirtual 44, 3) := by decide +kernel
theorem dL_law_390 : decode cL_law 390 = .ok (.aload_n 2, 1) := by decide +kernel
theorem dL_law_391 : decode cL_law 391 = .ok (.invokevirtual 47, 3) := by decide +kernel
theorem dL_law_394 : decode cL_law 394 = .ok (.if_icmp .eq 384, 3) := by decide +kernel
theorem dL_law_397 : decode cL_law 397 = .ok (.iconst 0, 1) := by decide +kernel
theorem dL_law_398 : decode cL_law 398 = .ok (.ireturn, 1) := by decide +kernel
theorem dL_law_399 : decode cL_law 399 = .ok (.aload_n 1, 1) := by decide +kernel
theorem dL_law_400 : decode cL_law 400 = .ok (.aload_n 0, 1) := by decide +kernel
theorem dL_law_401 : decode cL_law 401 = .ok (.iload_n 3, 1) := by decide +kernel
theorem dL_law_402 : decode cL_law 402 = .ok (.iconst 1, 1) := by decide +kernel
theorem dL_law_403 : decode cL_law 403 = .ok (.iadd, 1) := by decide +kernel
theorem dL_law_404 : decode cL_law 404 = .ok (.iaload, 1) := by decide +kernel
theorem dL_law_405 : decode cL_law 405 = .ok (.aload_n 0, 1) := by decide +kernel
theorem dL_law_406 : decode cL_law 406 = .ok (.iload_n 3, 1) := by decide +kernel
theorem dL_law_407 : decode cL_law 407 = .ok (.iconst 2, 1) := by decide +kernel
theorem dL_law_408 : decode cL_law 408 = .ok (.iadd, 1) := by decide +kernel
theorem dL_law_409 : decode cL_law 409 = .ok (.iaload, 1) := by decide +kernel
theorem dL_law_410 : decode cL_law 410 = .ok (.invokevirtual 48, 3) := by decide +kernel
theorem dL_law_413 : decode cL_law 413 = .ok (.aload_n 2, 1) := by decide +kernel
theorem dL_law_414 : decode cL_law 414 = .ok (.aload_n 0, 1) := by decide +kernel
theorem dL_law_415 : decode cL_law 415 = .ok (.iload_n 3, 1) := by decide +kernel
theorem dL_law_416 : decode cL_law 416 = .ok (.iconst 1, 1) := by decide +kernel
theorem dL_law_417 : decode cL_law 417 = .ok (.iadd, 1) := by decide +kernel
theorem dL_law_418 : decode cL_law 418 = .ok (.iaload, 1) := by decide +kernel
theorem dL_law_419 : decode cL_law 419 = .ok (.aload_n 0, 1) := by decide +kernel
theorem dL_law_420 : decode cL_law 420 = .ok (.iload_n 3, 1) := by decide +kernel
theorem dL_law_421 : decode cL_law 421 = .ok (.iconst 2, 1) := by decide +kernel
theorem dL_law_422 : decode cL_law 422 = .ok (.iadd, 1) := by decide +kernel
theorem dL_law_423 : decode cL_law 423 = .ok (.iaload, 1) := by decide +kernel
theorem dL_law_424 : decode cL_law 424 = .ok (.invokevirtual 51, 3) := by decide +kernel
theorem dL_law_427 : decode cL_law 427 = .ok (.if_icmp .eq 351, 3) := by decide +kernel
theorem dL_law_430 : decode cL_law 430 = .ok (.iconst 0, 1) := by decide +kernel
theorem dL_law_431 : decode cL_law 431 = .ok (.ireturn, 1) := by decide +kernel
theorem dL_law_432 : decode cL_law 432 = .ok (.aload_n 1, 1) := by decide +kernel
theorem dL_law_433 : decode cL_law 433 = .ok (.aload_n 0, 1) := by decide +kernel
theorem dL_law_434 : decode cL_law 434 = .ok (.iload_n 3, 1) := by decide +kernel
theorem dL_law_435 : decode cL_law 435 = .ok (.iconst 1, 1) := by decide +kernel
theorem dL_law_436 : decode cL_law 436 = .ok (.iadd, 1) := by decide +kernel
theorem dL_law_437 : decode cL_law 437 = .ok (.iaload, 1) := by decide +kernel
theorem dL_law_438 : decode cL_law 438 = .ok (.aload_n 0, 1) := by decide +kernel
theorem dL_law_439 : decode cL_law 439 = .ok (.iload_n 3, 1) := by decide +kernel
theorem dL_law_440 : decode cL_law 440 = .ok (.iconst 2, 1) := by decide +kernel
theorem dL_law_441 : decode cL_law 441 = .ok (.iadd, 1) := by decide +kernel
theorem dL_law_442 : decode cL_law 442 = .ok (.iaload, 1) := by decide +kernel
theorem dL_law_443 : decode cL_law 443 = .ok (.aload_n 0, 1) := by decide +kernel
theorem dL_law_444 : decode cL_law 444 = .ok (.iload_n 3, 1) := by decide +kernel
theorem dL_law_445 : decode cL_law 445 = .ok (.iconst 3, 1) := by decide +kernel
theorem dL_law_446 : decode cL_law 446 = .ok (.iadd, 1) := by decide +kernel
theorem dL_law_447 : decode cL_law 447 = .ok (.iaload, 1) := by decide +kernel
theorem dL_law_448 : decode cL_law 448 = .ok (.invokevirtual 52, 3) := by decide +kernel
theorem dL_law_451 : decode cL_law 451 = .ok (.aload_n 2, 1) := by decide +kernel
theorem dL_law_452 : decode cL_law 452 = .ok (.aload_n 0, 1) := by decide +kernel
theorem dL_law_453 : decode cL_law 453 = .ok (.iload_n 3, 1) := by decide +kernel
theorem dL_law_454 : decode cL_law 454 = .ok (.iconst 1, 1) := by decide +kernel
theorem dL_law_455 : decode cL_law 455 = .ok (.iadd, 1) := by decide +kernel
theorem dL_law_456 : decode cL_law 456 = .ok (.iaload, 1) := by decide +kernel
theorem dL_law_457 : decode cL_law 457 = .ok (.aload_n 0, 1) := by decide +kernel
theorem dL_law_458 : decode cL_law 458 = .ok (.iload_n 3, 1) := by decide +kernel
theorem dL_law_459 : decode cL_law 459 = .ok (.iconst 2, 1) := by decide +kernel
theorem dL_law_460 : decode cL_law 460 = .ok (.iadd, 1) := by decide +kernel
theorem dL_law_461 : decode cL_law 461 = .ok (.iaload, 1) := by decide +kernel
theorem dL_law_462 : decode cL_law 462 = .ok (.aload_n 0, 1) := by decide +kernel
theorem dL_law_463 : decode cL_law 463 = .ok (.iload_n 3, 1) := by decide +kernel
theorem dL_law_464 : decode cL_law 464 = .ok (.iconst 3, 1) := by decide +kernel
theorem dL_law_465 : decode cL_law 465 = .ok (.iadd, 1) := by decide +kernel
theorem dL_law_466 : decode cL_law 466 = .ok (.iaload, 1) := by decide +kernel
theorem dL_law_467 : decode cL_law 467 = .ok (.invokevirtual 55, 3) := by decide +kernel
theorem dL_law_470 : decode cL_law 470 = .ok (.if_icmp .eq 308, 3) := by decide +kernel
theorem dL_law_473 : decode cL_law 473 = .ok (.iconst 0, 1) := by decide +kernel
theorem dL_law_474 : decode cL_law 474 = .ok (.ireturn, 1) := by decide +kernel
theorem dL_law_475 : decode cL_law 475 = .ok (.aload_n 1, 1) := by decide +kernel
theorem dL_law_476 : decode cL_law 476 = .ok (.aload_n 0, 1) := by decide +kernel
theorem dL_law_477 : decode cL_law 477 = .ok (.iload_n 3, 1) := by decide +kernel
theorem dL_law_478 : decode cL_law 478 = .ok (.iconst 1, 1) := by decide +kernel
theorem dL_law_479 : decode cL_law 479 = .ok (.iadd, 1) := by decide +kernel
theorem dL_law_480 : decode cL_law 480 = .ok (.iaload, 1) := by decide +kernel
theorem dL_law_481 : decode cL_law 481 = .ok (.aload_n 0, 1) := by decide +kernel
theorem dL_law_482 : decode cL_law 482 = .ok (.iload_n 3, 1) := by decide +kernel
theorem dL_law_483 : decode cL_law 483 = .ok (.iconst 2, 1) := by decide +kernel
theorem dL_law_484 : decode cL_law 484 = .ok (.iadd, 1) := by decide +kernel
theorem dL_law_485 : decode cL_law 485 = .ok (.iaload, 1) := by decide +kernel
theorem dL_law_486 : decode cL_law 486 = .ok (.invokevirtual 56, 3) := by decide +kernel
theorem dL_law_489 : decode cL_law 489 = .ok (.aload_n 2, 1) := by decide +kernel
theorem dL_law_490 : decode cL_law 490 = .ok (.aload_n 0, 1) := by decide +kernel
theorem dL_law_491 : decode cL_law 491 = .ok (.iload_n 3, 1) := by decide +kernel
theorem dL_law_492 : decode cL_law 492 = .ok (.iconst 1, 1) := by decide +kernel
theorem dL_law_493 : decode cL_law 493 = .ok (.iadd, 1) := by decide +kernel
theorem dL_law_494 : decode cL_law 494 = .ok (.iaload, 1) := by decide +kernel
theorem dL_law_495 : decode cL_law 495 = .ok (.aload_n 0, 1) := by decide +kernel
theorem dL_law_496 : decode cL_law 496 = .ok (.iload_n 3, 1) := by decide +kernel
theorem dL_law_497 : decode cL_law 497 = .ok (.iconst 2, 1) := by decide +kernel
theorem dL_law_498 : decode cL_law 498 = .ok (.iadd, 1) := by decide +kernel
theorem dL_law_499 : decode cL_law 499 = .ok (.iaload, 1) := by decide +kernel
theorem dL_law_500 : decode cL_law 500 = .ok (.invokevirtual 59, 3) := by decide +kernel
theorem dL_law_503 : decode cL_law 503 = .ok (.if_icmp .eq 275, 3) := by decide +kernel
theorem dL_law_506 : decode cL_law 506 = .ok (.iconst 0, 1) := by decide +kernel
theorem dL_law_507 : decode cL_law 507 = .ok (.ireturn, 1) := by decide +kernel
theorem dL_law_508 : decode cL_law 508 = .ok (.aload_n 1, 1) := by decide +kernel
theorem dL_law_509 : decode cL_law 509 = .ok (.aload_n 0, 1) := by decide +kernel
theorem dL_law_510 : decode cL_law 510 = .ok (.iload_n 3, 1) := by decide +kernel
theorem dL_law_511 : decode cL_law 511 = .ok (.iconst 1, 1) := by decide +kernel
theorem dL_law_512 : decode cL_law 512 = .ok (.iadd, 1) := by decide +kernel
theorem dL_law_513 : decode cL_law 513 = .ok (.iaload, 1) := by decide +kernel
theorem dL_law_514 : decode cL_law 514 = .ok (.invokevirtual 60, 3) := by decide +kernel
theorem dL_law_517 : decode cL_law 517 = .ok (.aload_n 2, 1) := by decide +kernel
theorem dL_law_518 : decode cL_law 518 = .ok (.aload_n 0, 1) := by decide +kernel
theorem dL_law_519 : decode cL_law 519 = .ok (.iload_n 3, 1) := by decide +kernel
theorem dL_law_520 : decode cL_law 520 = .ok (.iconst 1, 1) := by decide +kernel
theorem dL_law_521 : decode cL_law 521 = .ok (.iadd, 1) := by decide +kernel
theorem dL_law_522 : decode cL_law 522 = .ok (.iaload, 1) := by decide +kernel
theorem dL_law_523 : decode cL_law 523 = .ok (.invokevirtual 64, 3) := by decide +kernel
theorem dL_law_526 : decode cL_law 526 = .ok (.if_icmp .eq 252, 3) := by decide +kernel
theorem dL_law_529 : decode cL_law 529 = .ok (.iconst 0, 1) := by decide +kernel
theorem dL_law_530 : decode cL_law 530 = .ok (.ireturn, 1) := by decide +kernel
theorem dL_law_531 : decode cL_law 531 = .ok (.aload_n 1, 1) := by decide +kernel
theorem dL_law_532 : decode cL_law 532 = .ok (.aload_n 0, 1) := by decide +kernel
theorem dL_law_533 : decode cL_law 533 = .ok (.iload_n 3, 1) := by decide +kernel
theorem dL_law_534 : decode cL_law 534 = .ok (.iconst 1, 1) := by decide +kernel
theorem dL_law_535 : decode cL_law 535 = .ok (.iadd, 1) := by decide +kernel
theorem dL_law_536 : decode cL_law 536 = .ok (.iaload, 1) := by decide +kernel
theorem dL_law_537 : decode cL_law 537 = .ok (.invokevirtual 65, 3) := by decide +kernel
theorem dL_law_540 : decode cL_law 540 = .ok (.aload_n 2, 1) := by decide +kernel
theorem dL_law_541 : decode cL_law 541 = .ok (.aload_n 0, 1) := by decide +kernel
theorem dL_law_542 : decode cL_law 542 = .ok (.iload_n 3, 1) := by decide +kernel
theorem dL_law_543 : decode cL_law 543 = .ok (.iconst 1, 1) := by decide +kernel
theorem dL_law_544 : decode cL_law 544 = .ok (.iadd, 1) := by decide +kernel
theorem dL_law_545 : decode cL_law 545 = .ok (.iaload, 1) := by decide +kernel
theorem dL_law_546 : decode cL_law 546 = .ok (.invokevirtual 68, 3) := by decide +kernel
theorem dL_law_549 : decode cL_law 549 = .ok (.if_icmp .eq 229, 3) := by decide +kernel
theorem dL_law_552 : decode cL_law 552 = .ok (.iconst 0, 1) := by decide +kernel
theorem dL_law_553 : decode cL_law 553 = .ok (.ireturn, 1) := by decide +kernel
theorem dL_law_554 : decode cL_law 554 = .ok (.aload_n 1, 1) := by decide +kernel
theorem dL_law_555 : decode cL_law 555 = .ok (.aload_n 0, 1) := by decide +kernel
theorem dL_law_556 : decode cL_law 556 = .ok (.iload_n 3, 1) := by decide +kernel
theorem dL_law_557 : decode cL_law 557 = .ok (.iconst 1, 1) := by decide +kernel
theorem dL_law_558 : decode cL_law 558 = .ok (.iadd, 1) := by decide +kernel
theorem dL_law_559 : decode cL_law 559 = .ok (.iaload, 1) := by decide +kernel
theorem dL_law_560 : decode cL_law 560 = .ok (.invokevirtual 69, 3) := by decide +kernel
theorem dL_law_563 : decode cL_law 563 = .ok (.aload_n 2, 1) := by decide +kernel
theorem dL_law_564 : decode cL_law 564 = .ok (.aload_n 0, 1) := by decide +kernel
theorem dL_law_565 : decode cL_law 565 = .ok (.iload_n 3, 1) := by decide +kernel
theorem dL_law_566 : decode cL_law 566 = .ok (.iconst 1, 1) := by decide +kernel
theorem dL_law_567 : decode cL_law 567 = .ok (.iadd, 1) := by decide +kernel
theorem dL_law_568 : decode cL_law 568 = .ok (.iaload, 1) := by decide +kernel
theorem dL_law_569 : decode cL_law 569 = .ok (.invokevirtual 72, 3) := by decide +kernel
theorem dL_law_572 : decode cL_law 572 = .ok (.if_icmp .eq 206, 3) := by decide +kernel
theorem dL_law_575 : decode cL_law 575 = .ok (.iconst 0, 1) := by decide +kernel
theorem dL_law_576 : decode cL_law 576 = .ok (.ireturn, 1) := by decide +kernel
theorem dL_law_577 : decode cL_law 577 = .ok (.aload_n 1, 1) := by decide +kernel
theorem dL_law_578 : decode cL_law 578 = .ok (.aload_n 0, 1) := by decide +kernel
theorem dL_law_579 : decode cL_law 579 = .ok (.iload_n 3, 1) := by decide +kernel
theorem dL_law_580 : decode cL_law 580 = .ok (.iconst 1, 1) := by decide +kernel
theorem dL_law_581 : decode cL_law 581 = .ok (.iadd, 1) := by decide +kernel
theorem dL_law_582 : decode cL_law 582 = .ok (.iaload, 1) := by decide +kernel
theorem dL_law_583 : decode cL_law 583 = .ok (.aload_n 0, 1) := by decide +kernel
theorem dL_law_584 : decode cL_law 584 = .ok (.iload_n 3, 1) := by decide +kernel
theorem dL_law_585 : decode cL_law 585 = .ok (.iconst 2, 1) := by decide +kernel
theorem dL_law_586 : decode cL_law 586 = .ok (.iadd, 1) := by decide +kernel
theorem dL_law_587 : decode cL_law 587 = .ok (.iaload, 1) := by decide +kernel
theorem dL_law_588 : decode cL_law 588 = .ok (.aload_n 0, 1) := by decide +kernel
theorem dL_law_589 : decode cL_law 589 = .ok (.iload_n 3, 1) := by decide +kernel
theorem dL_law_590 : decode cL_law 590 = .ok (.iconst 3, 1) := by decide +kernel
theorem dL_law_591 : decode cL_law 591 = .ok (.iadd, 1) := by decide +kernel
theorem dL_law_592 : decode cL_law 592 = .ok (.iaload, 1) := by decide +kernel
theorem dL_law_593 : decode cL_law 593 = .ok (.aload_n 0, 1) := by decide +kernel
theorem dL_law_594 : decode cL_law 594 = .ok (.iload_n 3, 1) := by decide +kernel
theorem dL_law_595 : decode cL_law 595 = .ok (.iconst 4, 1) := by decide +kernel
theorem dL_law_596 : decode cL_law 596 = .ok (.iadd, 1) := by decide +kernel
theorem dL_law_597 : decode cL_law 597 = .ok (.iaload, 1) := by decide +kernel
theorem dL_law_598 : decode cL_law 598 = .ok (.invokevirtual 73, 3) := by decide +kernel
theorem dL_law_601 : decode cL_law 601 = .ok (.aload_n 2, 1) := by decide +kernel
theorem dL_law_602 : decode cL_law 602 = .ok (.aload_n 0, 1) := by decide +kernel
theorem dL_law_603 : decode cL_law 603 = .ok (.iload_n 3, 1) := by decide +kernel
theorem dL_law_604 : decode cL_law 604 = .ok (.iconst 1, 1) := by decide +kernel
theorem dL_law_605 : decode cL_law 605 = .ok (.iadd, 1) := by decide +kernel
theorem dL_law_606 : decode cL_law 606 = .ok (.iaload, 1) := by decide +kernel
theorem dL_law_607 : decode cL_law 607 = .ok (.aload_n 0, 1) := by decide +kernel
theorem dL_law_608 : decode cL_law 608 = .ok (.iload_n 3, 1) := by decide +kernel
theorem dL_law_609 : decode cL_law 609 = .ok (.iconst 2, 1) := by decide +kernel
theorem dL_law_610 : decode cL_law 610 = .ok (.iadd, 1) := by decide +kernel
theorem dL_law_611 : decode cL_law 611 = .ok (.iaload, 1) := by decide +kernel
theorem dL_law_612 : decode cL_law 612 = .ok (.aload_n 0, 1) := by decide +kernel
theorem dL_law_613 : decode cL_law 613 = .ok (.iload_n 3, 1) := by decide +kernel
theorem dL_law_614 : decode cL_law 614 = .ok (.iconst 3, 1) := by decide +kernel
theorem dL_law_615 : decode cL_law 615 = .ok (.iadd, 1) := by decide +kernel
theorem dL_law_616 : decode cL_law 616 = .ok (.iaload, 1) := by decide +kernel
theorem dL_law_617 : decode cL_law 617 = .ok (.aload_n 0, 1) := by decide +kernel
theorem dL_law_618 : decode cL_law 618 = .ok (.iload_n 3, 1) := by decide +kernel
theorem dL_law_619 : decode cL_law 619 = .ok (.iconst 4, 1) := by decide +kernel
theorem dL_law_620 : decode cL_law 620 = .ok (.iadd, 1) := by decide +kernel
theorem dL_law_621 : decode cL_law 621 = .ok (.iaload, 1) := by decide +kernel
theorem dL_law_622 : decode cL_law 622 = .ok (.invokevirtual 76, 3) := by decide +kernel
theorem dL_law_625 : decode cL_law 625 = .ok (.if_icmp .eq 153, 3) := by decide +kernel
theorem dL_law_628 : decode cL_law 628 = .ok (.iconst 0, 1) := by decide +kernel
theorem dL_law_629 : decode cL_law 629 = .ok (.ireturn, 1) := by decide +kernel
theorem dL_law_630 : decode cL_law 630 = .ok (.aload_n 1, 1) := by decide +kernel
theorem dL_law_631 : decode cL_law 631 = .ok (.aload_n 0, 1) := by decide +kernel
theorem dL_law_632 : decode cL_law 632 = .ok (.iload_n 3, 1) := by decide +kernel
theorem dL_law_633 : decode cL_law 633 = .ok (.iconst 1, 1) := by decide +kernel
theorem dL_law_634 : decode cL_law 634 = .ok (.iadd, 1) := by decide +kernel
theorem dL_law_635 : decode cL_law 635 = .ok (.iaload, 1) := by decide +kernel
theorem dL_law_636 : decode cL_law 636 = .ok (.invokevirtual 77, 3) := by decide +kernel
theorem dL_law_639 : decode cL_law 639 = .ok (.aload_n 2, 1) := by decide +kernel
theorem dL_law_640 : decode cL_law 640 = .ok (.aload_n 0, 1) := by decide +kernel
theorem dL_law_641 : decode cL_law 641 = .ok (.iload_n 3, 1) := by decide +kernel
theorem dL_law_642 : decode cL_law 642 = .ok (.iconst 1, 1) := by decide +kernel
theorem dL_law_643 : decode cL_law 643 = .ok (.iadd, 1) := by decide +kernel
theorem dL_law_644 : decode cL_law 644 = .ok (.iaload, 1) := by decide +kernel
theorem dL_law_645 : decode cL_law 645 = .ok (.invokevirtual 80, 3) := by decide +kernel
theorem dL_law_648 : decode cL_law 648 = .ok (.if_icmp .eq 130, 3) := by decide +kernel
theorem dL_law_651 : decode cL_law 651 = .ok (.iconst 0, 1) := by decide +kernel
theorem dL_law_652 : decode cL_law 652 = .ok (.ireturn, 1) := by decide +kernel
theorem dL_law_653 : decode cL_law 653 = .ok (.aload_n 1, 1) := by decide +kernel
theorem dL_law_654 : decode cL_law 654 = .ok (.aload_n 0, 1) := by decide +kernel
theorem dL_law_655 : decode cL_law 655 = .ok (.iload_n 3, 1) := by decide +kernel
theorem dL_law_656 : decode cL_law 656 = .ok (.iconst 1, 1) := by decide +kernel
theorem dL_law_657 : decode cL_law 657 = .ok (.iadd, 1) := by decide +kernel
theorem dL_law_658 : decode cL_law 658 = .ok (.iaload, 1) := by decide +kernel
theorem dL_law_659 : decode cL_law 659 = .ok (.aload_n 0, 1) := by decide +kernel
theorem dL_law_660 : decode cL_law 660 = .ok (.iload_n 3, 1) := by decide +kernel
theorem dL_law_661 : decode cL_law 661 = .ok (.iconst 2, 1) := by decide +kernel
theorem dL_law_662 : decode cL_law 662 = .ok (.iadd, 1) := by decide +kernel
theorem dL_law_663 : decode cL_law 663 = .ok (.iaload, 1) := by decide +kernel
theorem dL_law_664 : decode cL_law 664 = .ok (.aload_n 0, 1) := by decide +kernel
theorem dL_law_665 : decode cL_law 665 = .ok (.iload_n 3, 1) := by decide +kernel
theorem dL_law_666 : decode cL_law 666 = .ok (.iconst 3, 1) := by decide +kernel
theorem dL_law_667 : decode cL_law 667 = .ok (.iadd, 1) := by decide +kernel
theorem dL_law_668 : decode cL_law 668 = .ok (.iaload, 1) := by decide +kernel
theorem dL_law_669 : decode cL_law 669 = .ok (.invokevirtual 81, 3) := by decide +kernel
theorem dL_law_672 : decode cL_law 672 = .ok (.aload_n 2, 1) := by decide +kernel
theorem dL_law_673 : decode cL_law 673 = .ok (.aload_n 0, 1) := by decide +kernel
theorem dL_law_674 : decode cL_law 674 = .ok (.iload_n 3, 1) := by decide +kernel
theorem dL_law_675 : decode cL_law 675 = .ok (.iconst 1, 1) := by decide +kernel
theorem dL_law_676 : decode cL_law 676 = .ok (.iadd, 1) := by decide +kernel
theorem dL_law_677 : decode cL_law 677 = .ok (.iaload, 1) := by decide +kernel
theorem dL_law_678 : decode cL_law 678 = .ok (.aload_n 0, 1) := by decide +kernel
theorem dL_law_679 : decode cL_law 679 = .ok (.iload_n 3, 1) := by decide +kernel
theorem dL_law_680 : decode cL_law 680 = .ok (.iconst 2, 1) := by decide +kernel
theorem dL_law_681 : decode cL_law 681 = .ok (.iadd, 1) := by decide +kernel
theorem dL_law_682 : decode cL_law 682 = .ok (.iaload, 1) := by decide +kernel
theorem dL_law_683 : decode cL_law 683 = .ok (.aload_n 0, 1) := by decide +kernel
theorem dL_law_684 : decode cL_law 684 = .ok (.iload_n 3, 1) := by decide +kernel
theorem dL_law_685 : decode cL_law 685 = .ok (.iconst 3, 1) := by decide +kernel
theorem dL_law_686 : decode cL_law 686 = .ok (.iadd, 1) := by decide +kernel
theorem dL_law_687 : decode cL_law 687 = .ok (.iaload, 1) := by decide +kernel
theorem dL_law_688 : decode cL_law 688 = .ok (.invokevirtual 84, 3) := by decide +kernel
theorem dL_law_691 : decode cL_law 691 = .ok (.if_icmp .eq 87, 3) := by decide +kernel
theorem dL_law_694 : decode cL_law 694 = .ok (.iconst 0, 1) := by decide +kernel
theorem dL_law_695 : decode cL_law 695 = .ok (.ireturn, 1) := by decide +kernel
theorem dL_law_696 : decode cL_law 696 = .ok (.aload_n 1, 1) := by decide +kernel
theorem dL_law_697 : decode cL_law 697 = .ok (.invokevirtual 85, 3) := by decide +kernel
theorem dL_law_700 : decode cL_law 700 = .ok (.aload_n 2, 1) := by decide +kernel
theorem dL_law_701 : decode cL_law 701 = .ok (.invokevirtual 88, 3) := by decide +kernel
theorem dL_law_704 : decode cL_law 704 = .ok (.if_icmp .eq 74, 3) := by decide +kernel
theorem dL_law_707 : decode cL_law 707 = .ok (.iconst 0, 1) := by decide +kernel
theorem dL_law_708 : decode cL_law 708 = .ok (.ireturn, 1) := by decide +kernel
theorem dL_law_709 : decode cL_law 709 = .ok (.aload_n 1, 1) := by decide +kernel
theorem dL_law_710 : decode cL_law 710 = .ok (.aload_n 0, 1) := by decide +kernel
theorem dL_law_711 : decode cL_law 711 = .ok (.iload_n 3, 1) := by decide +kernel
theorem dL_law_712 : decode cL_law 712 = .ok (.iconst 1, 1) := by decide +kernel
theorem dL_law_713 : decode cL_law 713 = .ok (.iadd, 1) := by decide +kernel
theorem dL_law_714 : decode cL_law 714 = .ok (.iaload, 1) := by decide +kernel
theorem dL_law_715 : decode cL_law 715 = .ok (.aload_n 0, 1) := by decide +kernel
theorem dL_law_716 : decode cL_law 716 = .ok (.iload_n 3, 1) := by decide +kernel
theorem dL_law_717 : decode cL_law 717 = .ok (.iconst 2, 1) := by decide +kernel
theorem dL_law_718 : decode cL_law 718 = .ok (.iadd, 1) := by decide +kernel
theorem dL_law_719 : decode cL_law 719 = .ok (.iaload, 1) := by decide +kernel
theorem dL_law_720 : decode cL_law 720 = .ok (.invokevirtual 89, 3) := by decide +kernel
theorem dL_law_723 : decode cL_law 723 = .ok (.aload_n 2, 1) := by decide +kernel
theorem dL_law_724 : decode cL_law 724 = .ok (.aload_n 0, 1) := by decide +kernel
theorem dL_law_725 : decode cL_law 725 = .ok (.iload_n 3, 1) := by decide +kernel
theorem dL_law_726 : decode cL_law 726 = .ok (.iconst 1, 1) := by decide +kernel
theorem dL_law_727 : decode cL_law 727 = .ok (.iadd, 1) := by decide +kernel
theorem dL_law_728 : decode cL_law 728 = .ok (.iaload, 1) := by decide +kernel
theorem dL_law_729 : decode cL_law 729 = .ok (.aload_n 0, 1) := by decide +kernel
theorem dL_law_730 : decode cL_law 730 = .ok (.iload_n 3, 1) := by decide +kernel
theorem dL_law_731 : decode cL_law 731 = .ok (.iconst 2, 1) := by decide +kernel
theorem dL_law_732 : decode cL_law 732 = .ok (.iadd, 1) := by decide +kernel
theorem dL_law_733 : decode cL_law 733 = .ok (.iaload, 1) := by decide +kernel
theorem dL_law_734 : decode cL_law 734 = .ok (.invokevirtual 92, 3) := by decide +kernel
theorem dL_law_737 : decode cL_law 737 = .ok (.if_icmp .eq 41, 3) := by decide +kernel
theorem dL_law_740 : decode cL_law 740 = .ok (.iconst 0, 1) := by decide +kernel
theorem dL_law_741 : decode cL_law 741 = .ok (.ireturn, 1) := by decide +kernel
theorem dL_law_742 : decode cL_law 742 = .ok (.aload_n 1, 1) := by decide +kernel
theorem dL_law_743 : decode cL_law 743 = .ok (.invokevirtual 93, 3) := by decide +kernel
theorem dL_law_746 : decode cL_law 746 = .ok (.aload_n 2, 1) := by decide +kernel
theorem dL_law_747 : decode cL_law 747 = .ok (.invokevirtual 96, 3) := by decide +kernel
theorem dL_law_750 : decode cL_law 750 = .ok (.if_icmp .eq 28, 3) := by decide +kernel
theorem dL_law_753 : decode cL_law 753 = .ok (.iconst 0, 1) := by decide +kernel
theorem dL_law_754 : decode cL_law 754 = .ok (.ireturn, 1) := by decide +kernel
theorem dL_law_755 : decode cL_law 755 = .ok (.aload_n 1, 1) := by decide +kernel
theorem dL_law_756 : decode cL_law 756 = .ok (.aload_n 0, 1) := by decide +kernel
theorem dL_law_757 : decode cL_law 757 = .ok (.iload_n 3, 1) := by decide +kernel
theorem dL_law_758 : decode cL_law 758 = .ok (.iconst 1, 1) := by decide +kernel
theorem dL_law_759 : decode cL_law 759 = .ok (.iadd, 1) := by decide +kernel
theorem dL_law_760 : decode cL_law 760 = .ok (.iaload, 1) := by decide +kernel
theorem dL_law_761 : decode cL_law 761 = .ok (.invokevirtual 97, 3) := by decide +kernel
theorem dL_law_764 : decode cL_law 764 = .ok (.aload_n 2, 1) := by decide +kernel
theorem dL_law_765 : decode cL_law 765 = .ok (.aload_n 0, 1) := by decide +kernel
theorem dL_law_766 : decode cL_law 766 = .ok (.iload_n 3, 1) := by decide +kernel
theorem dL_law_767 : decode cL_law 767 = .ok (.iconst 1, 1) := by decide +kernel
theorem dL_law_768 : decode cL_law 768 = .ok (.iadd, 1) := by decide +kernel
theorem dL_law_769 : decode cL_law 769 = .ok (.iaload, 1) := by decide +kernel
theorem dL_law_770 : decode cL_law 770 = .ok (.invokevirtual 100, 3) := by decide +kernel
theorem dL_law_773 : decode cL_law 773 = .ok (.if_icmp .eq 5, 3) := by decide +kernel
theorem dL_law_776 : decode cL_law 776 = .ok (.iconst 0, 1) := by decide +kernel
theorem dL_law_777 : decode cL_law 777 = .ok (.ireturn, 1) := by decide +kernel
theorem dL_law_778 : decode cL_law 778 = .ok (.iinc 3 5, 3) := by decide +kernel
theorem dL_law_781 : decode cL_law 781 = .ok (.goto (-763), 3) := by decide +kernel
theorem dL_law_784 : decode cL_law 784 = .ok (.iconst 1, 1) := by decide +kernel
theorem dL_law_785 : decode cL_law 785 = .ok (.ireturn, 1) := by decide +kernel
end
section
/-! fm_: a world of cells with fixed addresses whose ints are mathematical integers; a judgement fm_W over it; a row an instruction. -/
theorem fm_rng (x : Int32) : -2147483648 ≤ x.toInt ∧ x.toInt < 2147483648 := ⟨by have := x.le_toInt; simpa using this, by have := x.toInt_lt; simpa using this⟩
theorem fm_ofI {z : Int} (h1 : -2147483648 ≤ z) (h2 : z < 2147483648) : (Int32.ofInt z).toInt = z := by
  rw [Int32.toInt_ofInt]
  rw [Int.bmod_eq_of_le (by simp; omega) (by simp; omega)]
theorem fm_asI (x : Int32) : Int32.ofInt x.toInt = x := Int32.ofInt_toInt x
abbrev fm_R (z : Int) : Prop := -2147483648 ≤ z ∧ z < 2147483648
def fm_I (z : Int) : Value := .int (Int32.ofInt z)
theorem fm_I_of (x : Int32) : Value.int x = fm_I x.toInt := by rw [fm_I, fm_asI]
theorem fm_inj {x y : Int} (hx : fm_R x) (hy : fm_R y) (h : Int32.ofInt x = Int32.ofInt y) : x = y := by
  have := congrArg Int32.toInt h
  rwa [fm_ofI hx.1 hx.2, fm_ofI hy.1 hy.2] at this
theorem fm_lt {x y : Int} (hx : fm_R x) (hy : fm_R y) : Int32.ofInt x < Int32.ofInt y ↔ x < y := by
  rw [Int32.lt_iff_toInt_lt, fm_ofI hx.1 hx.2, fm_ofI hy.1 hy.2]
theorem fm_le {x y : Int} (hx : fm_R x) (hy : fm_R y) : Int32.ofInt x ≤ Int32.ofInt y ↔ x ≤ y := by
  rw [Int32.le_iff_toInt_le, fm_ofI hx.1 hx.2, fm_ofI hy.1 hy.2]
theorem fm_eq {x y : Int} (hx : fm_R x) (hy : fm_R y) : Int32.ofInt x = Int32.ofInt y ↔ x = y := ⟨fm_inj hx hy, fun h => by rw [h]⟩
theorem fm_z0 : (0 : Int32) = Int32.ofInt 0 := by decide
theorem fm_nat {z : Int} (h0 : 0 ≤ z) (h1 : z < 2147483648) : Int32.ofInt z = nI z.toNat := by
  apply Int32.toInt_inj.mp
  rw [fm_ofI (by omega) h1, nI_toInt (by omega)]
  omega
theorem fm_clamp {z : Int} (h0 : 0 ≤ z) (h1 : z < 2147483648) : (Int32.ofInt z).toNatClampNeg = z.toNat := by
  rw [fm_nat h0 h1, nI_clamp (by omega)]
theorem fm_vin {z : Int} {n : Nat} (hn : n < 2 ^ 31) (h0 : 0 ≤ z) (h1 : z < n) : vp_in (Int32.ofInt z) n := by
  rw [fm_nat h0 (by omega)]
  exact vp_in_nI (by omega) hn
-- the world
abbrev fm_Mem : Type := Nat → Nat → Int
def fm_up (σ : fm_Mem) (k j : Nat) (v : Int) : fm_Mem := fun a b => if a = k ∧ b = j then v else σ a b
abbrev fm_Sh : Type := Nat × (Nat → Nat ⊕ (Nat × Nat) ⊕ Nat) × (Nat → Nat → Nat) × (Nat → Nat) × (Nat → Nat → Bool)
abbrev fm_O : Type := Launch × va_G × (Nat → ClassId) × (Nat → Nat)
def fm_r (ω : fm_O) (k : Nat) : Value := .ref (ω.2.2.2 k)
def fm_tys (ct : Nat → ClassId) : List (ClassId × FieldType) := [(ct 0, .int), (ct 1, .object RX3), (ct 2, .array .int)]
def fm_e (S : fm_Sh) (ct : Nat → ClassId) (ad : Nat → Nat) (σ : fm_Mem) (k : Nat) : va_E :=
  match S.2.1 k with
  | .inl n => .inl (ct 0, n, .inl (fun j => Int32.ofInt (σ k j)))
  | .inr (.inl (t, n)) => .inl (ct t, n, .inr (.inr (.inr (.inr (fun j => some (ad (S.2.2.1 k j)))))))
  | .inr (.inr c) => .inr (c, (List.range (S.2.2.2.1 c)).map (fun j => if S.2.2.2.2 c j then Value.ref (ad (S.2.2.1 k j)) else Value.int (Int32.ofInt (σ k j))))
def fm_ws (S : fm_Sh) (ct : Nat → ClassId) (ad : Nat → Nat) (σ : fm_Mem) : va_W := (List.range S.1).map (fun k => (ad k, fm_e S ct ad σ k))
theorem fm_ws_at {S : fm_Sh} {ct : Nat → ClassId} {ad : Nat → Nat} {σ : fm_Mem} {k : Nat} (h : k < S.1) : (fm_ws S ct ad σ)[k]? = some (ad k, fm_e S ct ad σ k) := by
  unfold fm_ws
  rw [List.getElem?_map, List.getElem?_range h]
  rfl
theorem fm_ws_len {S : fm_Sh} {ct : Nat → ClassId} {ad : Nat → Nat} {σ : fm_Mem} : (fm_ws S ct ad σ).length = S.1 := by simp [fm_ws]
theorem fm_ws_some {S : fm_Sh} {ct : Nat → ClassId} {ad : Nat → Nat} {σ : fm_Mem} {k : Nat} {q : Nat × va_E} (h : (fm_ws S ct ad σ)[k]? = some q) : k < S.1 ∧ q = (ad k, fm_e S ct ad σ k) := by
  have hk : k < S.1 := by
    have := (List.getElem?_eq_some_iff.mp h).1
    rwa [fm_ws_len] at this
  rw [fm_ws_at hk] at h
  exact ⟨hk, (Option.some.inj h).symm⟩
theorem fm_ws_set {S : fm_Sh} {ct : Nat → ClassId} {ad : Nat → Nat} {σ σ' : fm_Mem} {k : Nat} {e' : va_E} (h : k < S.1) (he : e' = fm_e S ct ad σ' k) (ho : ∀ i, i ≠ k → fm_e S ct ad σ' i = fm_e S ct ad σ i) : (fm_ws S ct ad σ).set k (ad k, e') = fm_ws S ct ad σ' := by
  apply List.ext_getElem?
  intro i
  by_cases hi : i < S.1
  · rw [fm_ws_at hi]
    by_cases hk : i = k
    · subst hk
      rw [List.getElem?_set_self (by rw [fm_ws_len]; exact h), he]
    · rw [List.getElem?_set_ne (fun q => hk q.symm), fm_ws_at hi, ho i hk]
  · rw [List.getElem?_eq_none (by rw [List.length_set, fm_ws_len]; omega), List.getElem?_eq_none (by rw [fm_ws_len]; omega)]
def fm_A (S : fm_Sh) (ad : Nat → Nat) : Nat → Prop := fun q => ∃ k, k < S.1 ∧ q = ad k
theorem fm_D {S : fm_Sh} {ct : Nat → ClassId} {ad : Nat → Nat} {σ σ' : fm_Mem} {A B : Nat → Prop} (h : va_D A (fm_ws S ct ad σ)) (hB : ∀ k, k < S.1 → B (ad k)) : va_D B (fm_ws S ct ad σ') := by
  refine ⟨fun i j p q hi hj e => ?_, fun k q hk => ?_⟩
  · obtain ⟨h1, rfl⟩ := fm_ws_some hi
    obtain ⟨h2, rfl⟩ := fm_ws_some hj
    exact h.1 i j _ _ (fm_ws_at h1) (fm_ws_at h2) e
  · obtain ⟨h1, rfl⟩ := fm_ws_some hk
    exact hB k h1
theorem fm_e_up_ne {S : fm_Sh} {ct : Nat → ClassId} {ad : Nat → Nat} {σ : fm_Mem} {k j : Nat} {v : Int} {i : Nat} (h : i ≠ k) : fm_e S ct ad (fm_up σ k j v) i = fm_e S ct ad σ i := by
  have : ∀ b, fm_up σ k j v i b = σ i b := fun b => by simp [fm_up, h]
  unfold fm_e
  cases S.2.1 i with
  | inl n => simp [this]
  | inr x =>
    cases x with
    | inl y => rfl
    | inr c => simp [this]
-- what cells are
def fm_ia (S : fm_Sh) (k n : Nat) : Prop := k < S.1 ∧ S.2.1 k = .inl n ∧ n < 2 ^ 31
def fm_ra (S : fm_Sh) (k t n : Nat) : Prop := k < S.1 ∧ S.2.1 k = .inr (.inl (t, n)) ∧ n < 2 ^ 31 ∧ (t = 1 ∨ t = 2)
def fm_ob (S : fm_Sh) (k c : Nat) : Prop := k < S.1 ∧ S.2.1 k = .inr (.inr c)
theorem fm_e_ia {S : fm_Sh} {k n : Nat} (h : fm_ia S k n) (ct : Nat → ClassId) (ad : Nat → Nat) (σ : fm_Mem) : fm_e S ct ad σ k = .inl (ct 0, n, .inl (fun j => Int32.ofInt (σ k j))) := by
  unfold fm_e; rw [h.2.1]
theorem fm_e_ra {S : fm_Sh} {k t n : Nat} (h : fm_ra S k t n) (ct : Nat → ClassId) (ad : Nat → Nat) (σ : fm_Mem) : fm_e S ct ad σ k = .inl (ct t, n, .inr (.inr (.inr (.inr (fun j => some (ad (S.2.2.1 k j))))))) := by
  unfold fm_e; rw [h.2.1]
theorem fm_e_ob {S : fm_Sh} {k c : Nat} (h : fm_ob S k c) (ct : Nat → ClassId) (ad : Nat → Nat) (σ : fm_Mem) : fm_e S ct ad σ k = .inr (c, (List.range (S.2.2.2.1 c)).map (fun j => if S.2.2.2.2 c j then Value.ref (ad (S.2.2.1 k j)) else Value.int (Int32.ofInt (σ k j)))) := by
  unfold fm_e; rw [h.2]
-- locals by place
def fm_L (ls : Array Slot) (L : List (Option Value)) : Prop := ls.size = L.length ∧ lv_wf ls ∧ ∀ (i : Nat) (v : Value), L[i]? = some (some v) → ls[i]? = some (.val v)
def fm_al (L : List (Option Value)) : List (Nat × Value) := (List.range L.length).filterMap (fun i => (L[i]?.join).map (fun v => (i, v)))
theorem fm_al_mem {L : List (Option Value)} {q : Nat × Value} : q ∈ fm_al L ↔ L[q.1]? = some (some q.2) := by
  unfold fm_al
  rw [List.mem_filterMap]
  constructor
  · rintro ⟨i, -, h⟩
    cases hx : L[i]? with
    | none => rw [hx] at h; cases h
    | some o =>
      cases o with
      | none => rw [hx] at h; cases h
      | some v => rw [hx] at h; cases h; exact hx
  · intro h
    refine ⟨q.1, List.mem_range.mpr (List.getElem?_eq_some_iff.mp h).1, ?_⟩
    rw [h]
    rfl
theorem fm_L.has {ls : Array Slot} {L : List (Option Value)} (h : fm_L ls L) : lv_has ls L.length (fm_al L) := ⟨h.1, h.2.1, fun q hq => h.2.2 q.1 q.2 (fm_al_mem.mp hq)⟩
def fm_c1 : Option Value → Bool
  | none => true
  | some v => v.category == 1
/-- storing a value of one slot at place i -/
theorem fm_L.put {ls' : Array Slot} {L : List (Option Value)} {i : Nat} {v : Value} (hi : i < L.length) (hc : ∀ j o, j + 1 = i → L[j]? = some o → fm_c1 o = true) (h : lv_has ls' L.length ((i, v) :: (fm_al L).filter (fun q => !(q.1 == i) && !(q.1 + 1 == i && q.2.category == 2)))) : fm_L ls' (L.set i (some v)) := by
  refine ⟨by rw [List.length_set]; exact h.1, h.2.1, fun j w hj => ?_⟩
  by_cases e : j = i
  · subst e
    rw [List.getElem?_set_self hi] at hj
    cases hj
    exact h.2.2 (j, v) List.mem_cons_self
  · rw [List.getElem?_set_ne (fun q => e q.symm)] at hj
    refine h.2.2 (j, w) (List.mem_cons_of_mem _ (List.mem_filter.mpr ⟨fm_al_mem.mpr hj, ?_⟩))
    simp only [Bool.and_eq_true, Bool.not_eq_true', beq_eq_false_iff_ne, ne_eq, Bool.and_eq_false_iff]
    refine ⟨e, ?_⟩
    by_cases e2 : j + 1 = i
    · right
      have := hc j (some w) e2 hj
      simp only [fm_c1, beq_iff_eq] at this
      simp [this]
    · left
      exact e2
theorem fm_L.weak {ls : Array Slot} {L L' : List (Option Value)} (h : fm_L ls L) (hl : L'.length = L.length) (hs : ∀ (i : Nat) (v : Value), L'[i]? = some (some v) → L[i]? = some (some v)) : fm_L ls L' := ⟨by rw [hl]; exact h.1, h.2.1, fun i v hv => h.2.2 i v (hs i v hv)⟩
-- the judgement
abbrev fm_G : Type := Program × Env × State × MethodId × Array Value × List Frame × Method × Code
/-- a method: bytes, class, room, locals, what it returns -/
abbrev fm_M : Type := ByteArray × String × Room × Nat × Option FieldType
def fm_Qc (S : fm_Sh) (ω : fm_O) (P : Option Value → fm_Mem → Prop) : Array Value → State → Outcome → State → Prop := fun _ st o t => ∃ (v : Option Value) (σ' : fm_Mem), o = .returned v ∧ P v σ' ∧ va_P ω.2.1 vwCl (fm_ws S ω.2.2.1 ω.2.2.2 σ') t.heap ∧ va_F (fm_A S ω.2.2.2) st t
def fm_C (S : fm_Sh) (ω : fm_O) (Γ : fm_G) (M : fm_M) : Prop :=
  Γ.1.tables.exec = Jvm.exec ∧ Γ.2.2.2.2.2.2.2.code = M.1 ∧ Γ.2.2.2.2.2.2.2.maxLocals = M.2.2.2.1 ∧ Γ.2.2.1.vm.findClass M.2.1 = some Γ.2.2.2.1.cls ∧ (∀ w ∈ fm_T, w.before Γ.2.2.2.2.1 Γ.2.2.1 = true) ∧ Γ.2.2.2.2.2.2.1.sig.returnType = M.2.2.2.2 ∧ Γ.2.2.2.2.2.2.1.locks = false ∧ va_K ω.2.1 vwCl (fm_tys ω.2.2.1) Γ.2.2.1 ∧ va_D (fm_A S ω.2.2.2) (fm_ws S ω.2.2.1 ω.2.2.2 (fun _ _ => 0))
def fm_W (S : fm_Sh) (ω : fm_O) (Γ : fm_G) (M : fm_M) (P : Option Value → fm_Mem → Prop) (σ : fm_Mem) (pc : Nat) (L : List (Option Value)) (st : List Value) : Prop :=
  fm_C S ω Γ M → L.length = M.2.2.2.1 → ∀ (H : Heap) (locs : List Loc) (ls : Array Slot), va_P ω.2.1 vwCl (fm_ws S ω.2.2.1 ω.2.2.2 σ) H → va_S (fm_A S ω.2.2.2) Γ.2.2.1.heap H locs → fm_L ls L →
    W Γ.1 ω.1 Γ.2.1 M.2.2.1 Γ.2.2.1 Γ.2.2.2.1 Γ.2.2.2.2.1 Γ.2.2.2.2.2.1 Γ.2.2.2.2.2.2.1 Γ.2.2.2.2.2.2.2 H locs 0 0 (MQ Γ.2.2.2.2.2.1 (fm_Qc S ω P) Γ.2.2.2.2.1 Γ.2.2.1 0 0 (fm_A S ω.2.2.2)) (F0 Γ.2.2.2.1 pc ls st)
/-- a contract -/
def fm_Met (S : fm_Sh) (ω : fm_O) (y : MethodName) (cc : ByteArray) (n : Nat) (ret : Option FieldType) (rm : Room) (av : List Value) (σ : fm_Mem) (P : Option Value → fm_Mem → Prop) : Prop :=
  Met ω.1 y (Cond.code y cc n ret :: fm_T) rm (va_Pc av (fun U => va_P ω.2.1 vwCl (fm_ws S ω.2.2.1 ω.2.2.2 σ) U.heap ∧ va_K ω.2.1 vwCl (fm_tys ω.2.2.1) U ∧ va_D (fun _ => True) (fm_ws S ω.2.2.1 ω.2.2.2 (fun _ _ => 0)))) (fm_Qc S ω P) 0 0 (fm_A S ω.2.2.2)
def fm_rm (d : Nat) : Room := { frames := d, cells := 0, slots := 0, locals := 36 * d }
/-- the locals at the start -/
def fm_in : List Value → Nat → List (Option Value)
  | _, 0 => []
  | [], n + 1 => none :: fm_in [] n
  | v :: vs, n + 1 => if v.category = 2 then (match n with | 0 => [some v] | k + 1 => some v :: none :: fm_in vs k) else some v :: fm_in vs n

section FM
variable {S : fm_Sh} {ω : fm_O} {Γ : fm_G} {M : fm_M} {P : Option Value → fm_Mem → Prop} {σ : fm_Mem} {pc : Nat} {L : List (Option Value)} {st : List Value}
theorem fm_locs {L' : List (Option Value)} (hl : L'.length = L.length) (hs : ∀ (i : Nat) (v : Value), L'[i]? = some (some v) → L[i]? = some (some v)) (k : fm_W S ω Γ M P σ pc L' st) : fm_W S ω Γ M P σ pc L st :=
  fun C hL H locs ls hP hS hl0 => k C (hl.trans hL) H locs ls hP hS (hl0.weak hl hs)
theorem fm_stk {st' : List Value} (h : st = st') (k : fm_W S ω Γ M P σ pc L st') : fm_W S ω Γ M P σ pc L st := h ▸ k
theorem fm_top {z z' : Int} (h : z = z') (k : fm_W S ω Γ M P σ pc L (fm_I z' :: st)) : fm_W S ω Γ M P σ pc L (fm_I z :: st) := h ▸ k
theorem fm_nm {z : Int} (k : ∀ y : Int, y = z → fm_W S ω Γ M P σ pc L (fm_I y :: st)) : fm_W S ω Γ M P σ pc L (fm_I z :: st) := k z rfl

theorem fm_iconst {n : Int} (hd : decode M.1 pc = .ok (.iconst n, 1)) (k : fm_W S ω Γ M P σ (pc + 1) L (fm_I n :: st)) : fm_W S ω Γ M P σ pc L (st) := by
  intro C hL H locs ls hP hS hl
  obtain ⟨hx, hb, hml, hown, hts, hr, hlk, hK, hD⟩ := id C
  exact lv_iconst hx hb hd rfl (k C hL H locs ls hP hS hl)
theorem fm_bipush {n : Int} (hv : (Int8.ofInt n).toInt32 = Int32.ofInt n) (hd : decode M.1 pc = .ok (.bipush n, 2)) (k : fm_W S ω Γ M P σ (pc + 2) L (fm_I n :: st)) : fm_W S ω Γ M P σ pc L (st) := by
  intro C hL H locs ls hP hS hl
  obtain ⟨hx, hb, hml, hown, hts, hr, hlk, hK, hD⟩ := id C
  exact lv_bipush hx hb hd hv (k C hL H locs ls hP hS hl)
theorem fm_sipush {n : Int} (hv : (Int16.ofInt n).toInt32 = Int32.ofInt n) (hd : decode M.1 pc = .ok (.sipush n, 3)) (k : fm_W S ω Γ M P σ (pc + 3) L (fm_I n :: st)) : fm_W S ω Γ M P σ pc L (st) := by
  intro C hL H locs ls hP hS hl
  obtain ⟨hx, hb, hml, hown, hts, hr, hlk, hK, hD⟩ := id C
  exact lv_sipush hx hb hd hv (k C hL H locs ls hP hS hl)
theorem fm_ldc {index : Nat} {n : Int} {v : Int32} (hm : Cond.constant M.2.1 index v ∈ fm_T) (hv : v = Int32.ofInt n) (hd : decode M.1 pc = .ok (.ldc index, 2)) (k : fm_W S ω Γ M P σ (pc + 2) L (fm_I n :: st)) : fm_W S ω Γ M P σ pc L (st) := by
  intro C hL H locs ls hP hS hl
  obtain ⟨hx, hb, hml, hown, hts, hr, hlk, hK, hD⟩ := id C
  subst hv
  exact lv_ldc hx hb hown (hts _ hm) hd (k C hL H locs ls hP hS hl)
theorem fm_iadd {x y : Int} (hd : decode M.1 pc = .ok (.iadd, 1)) (k : fm_W S ω Γ M P σ (pc + 1) L (fm_I (x + y) :: st)) : fm_W S ω Γ M P σ pc L (fm_I y :: fm_I x :: st) := by
  intro C hL H locs ls hP hS hl
  obtain ⟨hx, hb, hml, hown, hts, hr, hlk, hK, hD⟩ := id C
  have k2 := k C hL H locs ls hP hS hl
  rw [fm_I, Int32.ofInt_add] at k2
  exact lv_iadd hx hb hd k2
theorem fm_isub {x y : Int} (hd : decode M.1 pc = .ok (.isub, 1)) (k : fm_W S ω Γ M P σ (pc + 1) L (fm_I (x - y) :: st)) : fm_W S ω Γ M P σ pc L (fm_I y :: fm_I x :: st) := by
  intro C hL H locs ls hP hS hl
  obtain ⟨hx, hb, hml, hown, hts, hr, hlk, hK, hD⟩ := id C
  have k2 := k C hL H locs ls hP hS hl
  rw [fm_I, Int32.ofInt_sub] at k2
  exact lv_isub hx hb hd k2
theorem fm_imul {x y : Int} (hd : decode M.1 pc = .ok (.imul, 1)) (k : fm_W S ω Γ M P σ (pc + 1) L (fm_I (x * y) :: st)) : fm_W S ω Γ M P σ pc L (fm_I y :: fm_I x :: st) := by
  intro C hL H locs ls hP hS hl
  obtain ⟨hx, hb, hml, hown, hts, hr, hlk, hK, hD⟩ := id C
  have k2 := k C hL H locs ls hP hS hl
  rw [fm_I, Int32.ofInt_mul] at k2
  exact lv_imul hx hb hd k2
theorem fm_ineg {x : Int} (hd : decode M.1 pc = .ok (.ineg, 1)) (k : fm_W S ω Γ M P σ (pc + 1) L (fm_I (-x) :: st)) : fm_W S ω Γ M P σ pc L (fm_I x :: st) := by
  intro C hL H locs ls hP hS hl
  obtain ⟨hx, hb, hml, hown, hts, hr, hlk, hK, hD⟩ := id C
  have k2 := k C hL H locs ls hP hS hl
  rw [fm_I, Int32.ofInt_neg] at k2
  exact lv_ineg hx hb hd k2
theorem fm_iand {x y : Int} (z : Int) (hz : Int32.ofInt x &&& Int32.ofInt y = Int32.ofInt z) (hd : decode M.1 pc = .ok (.iand, 1)) (k : fm_W S ω Γ M P σ (pc + 1) L (fm_I z :: st)) : fm_W S ω Γ M P σ pc L (fm_I y :: fm_I x :: st) := by
  intro C hL H locs ls hP hS hl
  obtain ⟨hx, hb, hml, hown, hts, hr, hlk, hK, hD⟩ := id C
  have k2 := k C hL H locs ls hP hS hl
  rw [fm_I, ← hz] at k2
  exact lv_iand hx hb hd k2
theorem fm_ior {x y : Int} (z : Int) (hz : Int32.ofInt x ||| Int32.ofInt y = Int32.ofInt z) (hd : decode M.1 pc = .ok (.ior, 1)) (k : fm_W S ω Γ M P σ (pc + 1) L (fm_I z :: st)) : fm_W S ω Γ M P σ pc L (fm_I y :: fm_I x :: st) := by
  intro C hL H locs ls hP hS hl
  obtain ⟨hx, hb, hml, hown, hts, hr, hlk, hK, hD⟩ := id C
  have k2 := k C hL H locs ls hP hS hl
  rw [fm_I, ← hz] at k2
  exact lv_ior hx hb hd k2
theorem fm_ishl {x y : Int} (z : Int) (hz : Int32.ofInt x <<< (Int32.ofInt y &&& 31) = Int32.ofInt z) (hd : decode M.1 pc = .ok (.ishl, 1)) (k : fm_W S ω Γ M P σ (pc + 1) L (fm_I z :: st)) : fm_W S ω Γ M P σ pc L (fm_I y :: fm_I x :: st) := by
  intro C hL H locs ls hP hS hl
  obtain ⟨hx, hb, hml, hown, hts, hr, hlk, hK, hD⟩ := id C
  have k2 := k C hL H locs ls hP hS hl
  rw [fm_I, ← hz] at k2
  exact lv_ishl hx hb hd k2
theorem fm_ishr {x y : Int} (z : Int) (hz : Int32.ofInt x >>> (Int32.ofInt y &&& 31) = Int32.ofInt z) (hd : decode M.1 pc = .ok (.ishr, 1)) (k : fm_W S ω Γ M P σ (pc + 1) L (fm_I z :: st)) : fm_W S ω Γ M P σ pc L (fm_I y :: fm_I x :: st) := by
  intro C hL H locs ls hP hS hl
  obtain ⟨hx, hb, hml, hown, hts, hr, hlk, hK, hD⟩ := id C
  have k2 := k C hL H locs ls hP hS hl
  rw [fm_I, ← hz] at k2
  exact lv_ishr hx hb hd k2
theorem fm_idiv {x y : Int} (z : Int) (h0 : ¬ Int32.ofInt y = 0) (hz : Int32.ofInt x / Int32.ofInt y = Int32.ofInt z) (hd : decode M.1 pc = .ok (.idiv, 1)) (k : fm_W S ω Γ M P σ (pc + 1) L (fm_I z :: st)) : fm_W S ω Γ M P σ pc L (fm_I y :: fm_I x :: st) := by
  intro C hL H locs ls hP hS hl
  obtain ⟨hx, hb, hml, hown, hts, hr, hlk, hK, hD⟩ := id C
  have k2 := k C hL H locs ls hP hS hl
  rw [fm_I, ← hz] at k2
  exact lv_idiv hx hb hd h0 k2
theorem fm_irem {x y : Int} (z : Int) (h0 : ¬ Int32.ofInt y = 0) (hz : Int32.ofInt x - Int32.ofInt x / Int32.ofInt y * Int32.ofInt y = Int32.ofInt z) (hd : decode M.1 pc = .ok (.irem, 1)) (k : fm_W S ω Γ M P σ (pc + 1) L (fm_I z :: st)) : fm_W S ω Γ M P σ pc L (fm_I y :: fm_I x :: st) := by
  intro C hL H locs ls hP hS hl
  obtain ⟨hx, hb, hml, hown, hts, hr, hlk, hK, hD⟩ := id C
  have k2 := k C hL H locs ls hP hS hl
  rw [fm_I, ← hz] at k2
  exact lv_irem hx hb hd h0 k2
theorem fm_pop {z : Int} (hd : decode M.1 pc = .ok (.pop, 1)) (k : fm_W S ω Γ M P σ (pc + 1) L (st)) : fm_W S ω Γ M P σ pc L (fm_I z :: st) := by
  intro C hL H locs ls hP hS hl
  obtain ⟨hx, hb, hml, hown, hts, hr, hlk, hK, hD⟩ := id C
  exact lv_pop hx hb hd rfl (k C hL H locs ls hP hS hl)
theorem fm_dupI {z : Int} (hd : decode M.1 pc = .ok (.dup, 1)) (k : fm_W S ω Γ M P σ (pc + 1) L (fm_I z :: fm_I z :: st)) : fm_W S ω Γ M P σ pc L (fm_I z :: st) := by
  intro C hL H locs ls hP hS hl
  obtain ⟨hx, hb, hml, hown, hts, hr, hlk, hK, hD⟩ := id C
  exact lv_dup hx hb hd rfl (k C hL H locs ls hP hS hl)
theorem fm_dupR {k0 : Nat} (hd : decode M.1 pc = .ok (.dup, 1)) (k : fm_W S ω Γ M P σ (pc + 1) L (fm_r ω k0 :: fm_r ω k0 :: st)) : fm_W S ω Γ M P σ pc L (fm_r ω k0 :: st) := by
  intro C hL H locs ls hP hS hl
  obtain ⟨hx, hb, hml, hown, hts, hr, hlk, hK, hD⟩ := id C
  exact lv_dup hx hb hd rfl (k C hL H locs ls hP hS hl)
theorem fm_dup2 {z : Int} {k0 : Nat} (hd : decode M.1 pc = .ok (.dup2, 1)) (k : fm_W S ω Γ M P σ (pc + 1) L (fm_I z :: fm_r ω k0 :: fm_I z :: fm_r ω k0 :: st)) : fm_W S ω Γ M P σ pc L (fm_I z :: fm_r ω k0 :: st) := by
  intro C hL H locs ls hP hS hl
  obtain ⟨hx, hb, hml, hown, hts, hr, hlk, hK, hD⟩ := id C
  exact lv_dup2_11 hx hb hd rfl rfl (k C hL H locs ls hP hS hl)
theorem fm_i2l {x : Int} (v : Int64) (hv : (Int32.ofInt x).toInt64 = v) (hd : decode M.1 pc = .ok (.i2l, 1)) (k : fm_W S ω Γ M P σ (pc + 1) L (.long v :: st)) : fm_W S ω Γ M P σ pc L (fm_I x :: st) := by
  intro C hL H locs ls hP hS hl
  obtain ⟨hx, hb, hml, hown, hts, hr, hlk, hK, hD⟩ := id C
  exact lv_i2l hx hb hd hv (k C hL H locs ls hP hS hl)
theorem fm_l2i {v : Int64} (z : Int) (hv : v.toInt32 = Int32.ofInt z) (hd : decode M.1 pc = .ok (.l2i, 1)) (k : fm_W S ω Γ M P σ (pc + 1) L (fm_I z :: st)) : fm_W S ω Γ M P σ pc L (.long v :: st) := by
  intro C hL H locs ls hP hS hl
  obtain ⟨hx, hb, hml, hown, hts, hr, hlk, hK, hD⟩ := id C
  exact lv_l2i hx hb hd hv (k C hL H locs ls hP hS hl)
theorem fm_land {x y : Int64} (hd : decode M.1 pc = .ok (.land, 1)) (k : fm_W S ω Γ M P σ (pc + 1) L (.long (x &&& y) :: st)) : fm_W S ω Γ M P σ pc L (.long y :: .long x :: st) := by
  intro C hL H locs ls hP hS hl
  obtain ⟨hx, hb, hml, hown, hts, hr, hlk, hK, hD⟩ := id C
  exact lv_land hx hb hd (k C hL H locs ls hP hS hl)
theorem fm_lor {x y : Int64} (hd : decode M.1 pc = .ok (.lor, 1)) (k : fm_W S ω Γ M P σ (pc + 1) L (.long (x ||| y) :: st)) : fm_W S ω Γ M P σ pc L (.long y :: .long x :: st) := by
  intro C hL H locs ls hP hS hl
  obtain ⟨hx, hb, hml, hown, hts, hr, hlk, hK, hD⟩ := id C
  exact lv_lor hx hb hd (k C hL H locs ls hP hS hl)
theorem fm_lshl {x : Int64} {y : Int} (v : Int64) (hv : x <<< ((Int32.ofInt y).toInt64 &&& 63) = v) (hd : decode M.1 pc = .ok (.lshl, 1)) (k : fm_W S ω Γ M P σ (pc + 1) L (.long v :: st)) : fm_W S ω Γ M P σ pc L (fm_I y :: .long x :: st) := by
  intro C hL H locs ls hP hS hl
  obtain ⟨hx, hb, hml, hown, hts, hr, hlk, hK, hD⟩ := id C
  exact lv_lshl hx hb hd hv (k C hL H locs ls hP hS hl)
theorem fm_lshr {x : Int64} {y : Int} (v : Int64) (hv : x >>> ((Int32.ofInt y).toInt64 &&& 63) = v) (hd : decode M.1 pc = .ok (.lshr, 1)) (k : fm_W S ω Γ M P σ (pc + 1) L (.long v :: st)) : fm_W S ω Γ M P σ pc L (fm_I y :: .long x :: st) := by
  intro C hL H locs ls hP hS hl
  obtain ⟨hx, hb, hml, hown, hts, hr, hlk, hK, hD⟩ := id C
  exact lv_lshr hx hb hd hv (k C hL H locs ls hP hS hl)
theorem fm_lushr {x : Int64} {y : Int} (v : Int64) (hv : (x.toUInt64 >>> ((Int32.ofInt y).toInt64.toUInt64 &&& Int64.toUInt64 63)).toInt64 = v) (hd : decode M.1 pc = .ok (.lushr, 1)) (k : fm_W S ω Γ M P σ (pc + 1) L (.long v :: st)) : fm_W S ω Γ M P σ pc L (fm_I y :: .long x :: st) := by
  intro C hL H locs ls hP hS hl
  obtain ⟨hx, hb, hml, hown, hts, hr, hlk, hK, hD⟩ := id C
  exact lv_lushr hx hb hd hv (k C hL H locs ls hP hS hl)
theorem fm_ldc2 {index : Nat} {v : Int64} (hm : Cond.constantLong M.2.1 index v ∈ fm_T) (hd : decode M.1 pc = .ok (.ldc2_w index, 3)) (k : fm_W S ω Γ M P σ (pc + 3) L (.long v :: st)) : fm_W S ω Γ M P σ pc L (st) := by
  intro C hL H locs ls hP hS hl
  obtain ⟨hx, hb, hml, hown, hts, hr, hlk, hK, hD⟩ := id C
  exact lv_ldc2 hx hb hown (hts _ hm) hd (k C hL H locs ls hP hS hl)
theorem fm_ild0 {x : Int} {t : List (Option Value)} (hd : decode M.1 pc = .ok (.iload_n 0, 1)) (k : fm_W S ω Γ M P σ (pc + 1) (some (fm_I x) :: t) (fm_I x :: st)) : fm_W S ω Γ M P σ pc (some (fm_I x) :: t) (st) := by
  intro C hL H locs ls hP hS hl
  obtain ⟨hx, hb, hml, hown, hts, hr, hlk, hK, hD⟩ := id C
  exact lv_iload_n hx hb hd rfl (hl.2.2 0 _ rfl) (k C hL H locs ls hP hS hl)
theorem fm_ald0 {x : Nat} {t : List (Option Value)} (hd : decode M.1 pc = .ok (.aload_n 0, 1)) (k : fm_W S ω Γ M P σ (pc + 1) (some (fm_r ω x) :: t) (fm_r ω x :: st)) : fm_W S ω Γ M P σ pc (some (fm_r ω x) :: t) (st) := by
  intro C hL H locs ls hP hS hl
  obtain ⟨hx, hb, hml, hown, hts, hr, hlk, hK, hD⟩ := id C
  exact lv_aload_n hx hb hd rfl (hl.2.2 0 _ rfl) (k C hL H locs ls hP hS hl)
theorem fm_lld0 {x : Int64} {t : List (Option Value)} (hd : decode M.1 pc = .ok (.lload_n 0, 1)) (k : fm_W S ω Γ M P σ (pc + 1) (some (.long x) :: t) (.long x :: st)) : fm_W S ω Γ M P σ pc (some (.long x) :: t) (st) := by
  intro C hL H locs ls hP hS hl
  obtain ⟨hx, hb, hml, hown, hts, hr, hlk, hK, hD⟩ := id C
  exact lv_lload_n hx hb hd rfl (hl.2.2 0 _ rfl) (k C hL H locs ls hP hS hl)
theorem fm_ist0 {o : Option Value} {x : Int} {t : List (Option Value)} (hd : decode M.1 pc = .ok (.istore_n 0, 1)) (k : fm_W S ω Γ M P σ (pc + 1) (some (fm_I x) :: t) (st)) : fm_W S ω Γ M P σ pc (o :: t) (fm_I x :: st) := by
  intro C hL H locs ls hP hS hl
  obtain ⟨hx, hb, hml, hown, hts, hr, hlk, hK, hD⟩ := id C
  refine lv_istore_n (i := 0) hx hb hd rfl hl.has (by simp) rfl (fun ls2 hl2 => ?_)
  have h9 : ∀ (j : Nat) (ow : Option Value), j + 1 = 0 → (o :: t)[j]? = some ow → fm_c1 ow = true := by
    intro j ow hj ho
    omega
  have hl3 := fm_L.put (L := o :: t) (i := 0) (by simp) h9 hl2
  exact k C hL H locs ls2 hP hS hl3
theorem fm_ast0 {o : Option Value} {x : Nat} {t : List (Option Value)} (hd : decode M.1 pc = .ok (.astore_n 0, 1)) (k : fm_W S ω Γ M P σ (pc + 1) (some (fm_r ω x) :: t) (st)) : fm_W S ω Γ M P σ pc (o :: t) (fm_r ω x :: st) := by
  intro C hL H locs ls hP hS hl
  obtain ⟨hx, hb, hml, hown, hts, hr, hlk, hK, hD⟩ := id C
  refine lv_astore_n (i := 0) hx hb hd rfl hl.has (by simp) rfl (fun ls2 hl2 => ?_)
  have h9 : ∀ (j : Nat) (ow : Option Value), j + 1 = 0 → (o :: t)[j]? = some ow → fm_c1 ow = true := by
    intro j ow hj ho
    omega
  have hl3 := fm_L.put (L := o :: t) (i := 0) (by simp) h9 hl2
  exact k C hL H locs ls2 hP hS hl3
theorem fm_inc0 {x n : Int} {t : List (Option Value)} (hd : decode M.1 pc = .ok (.iinc 0 n, 3)) (k : fm_W S ω Γ M P σ (pc + 3) (some (fm_I (x + n)) :: t) (st)) : fm_W S ω Γ M P σ pc (some (fm_I x) :: t) (st) := by
  intro C hL H locs ls hP hS hl
  obtain ⟨hx, hb, hml, hown, hts, hr, hlk, hK, hD⟩ := id C
  obtain ⟨q, hq⟩ := List.getElem?_of_mem (fm_al_mem (L := some (fm_I x) :: t) (q := (0, fm_I x)).mpr rfl)
  refine lv_iinc (v := Int32.ofInt (x + n)) hx hb hd hl.has (k := q) hq (Int32.ofInt_add x n).symm (by simp) rfl (fun ls2 hl2 => ?_)
  have h9 : ∀ (j : Nat) (ow : Option Value), j + 1 = 0 → (some (fm_I x) :: t)[j]? = some ow → fm_c1 ow = true := by
    intro j ow hj ho
    omega
  have hl3 := fm_L.put (L := some (fm_I x) :: t) (i := 0) (by simp) h9 hl2
  exact k C hL H locs ls2 hP hS hl3
theorem fm_ild1 {o0 : Option Value} {x : Int} {t : List (Option Value)} (hd : decode M.1 pc = .ok (.iload_n 1, 1)) (k : fm_W S ω Γ M P σ (pc + 1) (o0 :: some (fm_I x) :: t) (fm_I x :: st)) : fm_W S ω Γ M P σ pc (o0 :: some (fm_I x) :: t) (st) := by
  intro C hL H locs ls hP hS hl
  obtain ⟨hx, hb, hml, hown, hts, hr, hlk, hK, hD⟩ := id C
  exact lv_iload_n hx hb hd rfl (hl.2.2 1 _ rfl) (k C hL H locs ls hP hS hl)
theorem fm_ald1 {o0 : Option Value} {x : Nat} {t : List (Option Value)} (hd : decode M.1 pc = .ok (.aload_n 1, 1)) (k : fm_W S ω Γ M P σ (pc + 1) (o0 :: some (fm_r ω x) :: t) (fm_r ω x :: st)) : fm_W S ω Γ M P σ pc (o0 :: some (fm_r ω x) :: t) (st) := by
  intro C hL H locs ls hP hS hl
  obtain ⟨hx, hb, hml, hown, hts, hr, hlk, hK, hD⟩ := id C
  exact lv_aload_n hx hb hd rfl (hl.2.2 1 _ rfl) (k C hL H locs ls hP hS hl)
theorem fm_lld1 {o0 : Option Value} {x : Int64} {t : List (Option Value)} (hd : decode M.1 pc = .ok (.lload_n 1, 1)) (k : fm_W S ω Γ M P σ (pc + 1) (o0 :: some (.long x) :: t) (.long x :: st)) : fm_W S ω Γ M P σ pc (o0 :: some (.long x) :: t) (st) := by
  intro C hL H locs ls hP hS hl
  obtain ⟨hx, hb, hml, hown, hts, hr, hlk, hK, hD⟩ := id C
  exact lv_lload_n hx hb hd rfl (hl.2.2 1 _ rfl) (k C hL H locs ls hP hS hl)
theorem fm_ist1 {o0 : Option Value} {o : Option Value} {x : Int} {t : List (Option Value)} (hc : fm_c1 o0 = true) (hd : decode M.1 pc = .ok (.istore_n 1, 1)) (k : fm_W S ω Γ M P σ (pc + 1) (o0 :: some (fm_I x) :: t) (st)) : fm_W S ω Γ M P σ pc (o0 :: o :: t) (fm_I x :: st) := by
  intro C hL H locs ls hP hS hl
  obtain ⟨hx, hb, hml, hown, hts, hr, hlk, hK, hD⟩ := id C
  refine lv_istore_n (i := 1) hx hb hd rfl hl.has (by simp) rfl (fun ls2 hl2 => ?_)
  have h9 : ∀ (j : Nat) (ow : Option Value), j + 1 = 1 → (o0 :: o :: t)[j]? = some ow → fm_c1 ow = true := by
    intro j ow hj ho
    have hj9 : j = 0 := by omega
    subst hj9
    have e9 : o0 = ow := Option.some.inj ho
    rw [← e9]
    exact hc
  have hl3 := fm_L.put (L := o0 :: o :: t) (i := 1) (by simp) h9 hl2
  exact k C hL H locs ls2 hP hS hl3
theorem fm_ast1 {o0 : Option Value} {o : Option Value} {x : Nat} {t : List (Option Value)} (hc : fm_c1 o0 = true) (hd : decode M.1 pc = .ok (.astore_n 1, 1)) (k : fm_W S ω Γ M P σ (pc + 1) (o0 :: some (fm_r ω x) :: t) (st)) : fm_W S ω Γ M P σ pc (o0 :: o :: t) (fm_r ω x :: st) := by
  intro C hL H locs ls hP hS hl
  obtain ⟨hx, hb, hml, hown, hts, hr, hlk, hK, hD⟩ := id C
  refine lv_astore_n (i := 1) hx hb hd rfl hl.has (by simp) rfl (fun ls2 hl2 => ?_)
  have h9 : ∀ (j : Nat) (ow : Option Value), j + 1 = 1 → (o0 :: o :: t)[j]? = some ow → fm_c1 ow = true := by
    intro j ow hj ho
    have hj9 : j = 0 := by omega
    subst hj9
    have e9 : o0 = ow := Option.some.inj ho
    rw [← e9]
    exact hc
  have hl3 := fm_L.put (L := o0 :: o :: t) (i := 1) (by simp) h9 hl2
  exact k C hL H locs ls2 hP hS hl3
theorem fm_inc1 {o0 : Option Value} {x n : Int} {t : List (Option Value)} (hc : fm_c1 o0 = true) (hd : decode M.1 pc = .ok (.iinc 1 n, 3)) (k : fm_W S ω Γ M P σ (pc + 3) (o0 :: some (fm_I (x + n)) :: t) (st)) : fm_W S ω Γ M P σ pc (o0 :: some (fm_I x) :: t) (st) := by
  intro C hL H locs ls hP hS hl
  obtain ⟨hx, hb, hml, hown, hts, hr, hlk, hK, hD⟩ := id C
  obtain ⟨q, hq⟩ := List.getElem?_of_mem (fm_al_mem (L := o0 :: some (fm_I x) :: t) (q := (1, fm_I x)).mpr rfl)
  refine lv_iinc (v := Int32.ofInt (x + n)) hx hb hd hl.has (k := q) hq (Int32.ofInt_add x n).symm (by simp) rfl (fun ls2 hl2 => ?_)
  have h9 : ∀ (j : Nat) (ow : Option Value), j + 1 = 1 → (o0 :: some (fm_I x) :: t)[j]? = some ow → fm_c1 ow = true := by
    intro j ow hj ho
    have hj9 : j = 0 := by omega
    subst hj9
    have e9 : o0 = ow := Option.some.inj ho
    rw [← e9]
    exact hc
  have hl3 := fm_L.put (L := o0 :: some (fm_I x) :: t) (i := 1) (by simp) h9 hl2
  exact k C hL H locs ls2 hP hS hl3
theorem fm_ild2 {o0 o1 : Option Value} {x : Int} {t : List (Option Value)} (hd : decode M.1 pc = .ok (.iload_n 2, 1)) (k : fm_W S ω Γ M P σ (pc + 1) (o0 :: o1 :: some (fm_I x) :: t) (fm_I x :: st)) : fm_W S ω Γ M P σ pc (o0 :: o1 :: some (fm_I x) :: t) (st) := by
  intro C hL H locs ls hP hS hl
  obtain ⟨hx, hb, hml, hown, hts, hr, hlk, hK, hD⟩ := id C
  exact lv_iload_n hx hb hd rfl (hl.2.2 2 _ rfl) (k C hL H locs ls hP hS hl)
theorem fm_ald2 {o0 o1 : Option Value} {x : Nat} {t : List (Option Value)} (hd : decode M.1 pc = .ok (.aload_n 2, 1)) (k : fm_W S ω Γ M P σ (pc + 1) (o0 :: o1 :: some (fm_r ω x) :: t) (fm_r ω x :: st)) : fm_W S ω Γ M P σ pc (o0 :: o1 :: some (fm_r ω x) :: t) (st) := by
  intro C hL H locs ls hP hS hl
  obtain ⟨hx, hb, hml, hown, hts, hr, hlk, hK, hD⟩ := id C
  exact lv_aload_n hx hb hd rfl (hl.2.2 2 _ rfl) (k C hL H locs ls hP hS hl)
theorem fm_lld2 {o0 o1 : Option Value} {x : Int64} {t : List (Option Value)} (hd : decode M.1 pc = .ok (.lload_n 2, 1)) (k : fm_W S ω Γ M P σ (pc + 1) (o0 :: o1 :: some (.long x) :: t) (.long x :: st)) : fm_W S ω Γ M P σ pc (o0 :: o1 :: some (.long x) :: t) (st) := by
  intro C hL H locs ls hP hS hl
  obtain ⟨hx, hb, hml, hown, hts, hr, hlk, hK, hD⟩ := id C
  exact lv_lload_n hx hb hd rfl (hl.2.2 2 _ rfl) (k C hL H locs ls hP hS hl)
theorem fm_ist2 {o0 o1 : Option Value} {o : Option Value} {x : Int} {t : List (Option Value)} (hc : fm_c1 o1 = true) (hd : decode M.1 pc = .ok (.istore_n 2, 1)) (k : fm_W S ω Γ M P σ (pc + 1) (o0 :: o1 :: some (fm_I x) :: t) (st)) : fm_W S ω Γ M P σ pc (o0 :: o1 :: o :: t) (fm_I x :: st) := by
  intro C hL H locs ls hP hS hl
  obtain ⟨hx, hb, hml, hown, hts, hr, hlk, hK, hD⟩ := id C
  refine lv_istore_n (i := 2) hx hb hd rfl hl.has (by simp) rfl (fun ls2 hl2 => ?_)
  have h9 : ∀ (j : Nat) (ow : Option Value), j + 1 = 2 → (o0 :: o1 :: o :: t)[j]? = some ow → fm_c1 ow = true := by
    intro j ow hj ho
    have hj9 : j = 1 := by omega
    subst hj9
    have e9 : o1 = ow := Option.some.inj ho
    rw [← e9]
    exact hc
  have hl3 := fm_L.put (L := o0 :: o1 :: o :: t) (i := 2) (by simp) h9 hl2
  exact k C hL H locs ls2 hP hS hl3
theorem fm_ast2 {o0 o1 : Option Value} {o : Option Value} {x : Nat} {t : List (Option Value)} (hc : fm_c1 o1 = true) (hd : decode M.1 pc = .ok (.astore_n 2, 1)) (k : fm_W S ω Γ M P σ (pc + 1) (o0 :: o1 :: some (fm_r ω x) :: t) (st)) : fm_W S ω Γ M P σ pc (o0 :: o1 :: o :: t) (fm_r ω x :: st) := by
  intro C hL H locs ls hP hS hl
  obtain ⟨hx, hb, hml, hown, hts, hr, hlk, hK, hD⟩ := id C
  refine lv_astore_n (i := 2) hx hb hd rfl hl.has (by simp) rfl (fun ls2 hl2 => ?_)
  have h9 : ∀ (j : Nat) (ow : Option Value), j + 1 = 2 → (o0 :: o1 :: o :: t)[j]? = some ow → fm_c1 ow = true := by
    intro j ow hj ho
    have hj9 : j = 1 := by omega
    subst hj9
    have e9 : o1 = ow := Option.some.inj ho
    rw [← e9]
    exact hc
  have hl3 := fm_L.put (L := o0 :: o1 :: o :: t) (i := 2) (by simp) h9 hl2
  exact k C hL H locs ls2 hP hS hl3
theorem fm_inc2 {o0 o1 : Option Value} {x n : Int} {t : List (Option Value)} (hc : fm_c1 o1 = true) (hd : decode M.1 pc = .ok (.iinc 2 n, 3)) (k : fm_W S ω Γ M P σ (pc + 3) (o0 :: o1 :: some (fm_I (x + n)) :: t) (st)) : fm_W S ω Γ M P σ pc (o0 :: o1 :: some (fm_I x) :: t) (st) := by
  intro C hL H locs ls hP hS hl
  obtain ⟨hx, hb, hml, hown, hts, hr, hlk, hK, hD⟩ := id C
  obtain ⟨q, hq⟩ := List.getElem?_of_mem (fm_al_mem (L := o0 :: o1 :: some (fm_I x) :: t) (q := (2, fm_I x)).mpr rfl)
  refine lv_iinc (v := Int32.ofInt (x + n)) hx hb hd hl.has (k := q) hq (Int32.ofInt_add x n).symm (by simp) rfl (fun ls2 hl2 => ?_)
  have h9 : ∀ (j : Nat) (ow : Option Value), j + 1 = 2 → (o0 :: o1 :: some (fm_I x) :: t)[j]? = some ow → fm_c1 ow = true := by
    intro j ow hj ho
    have hj9 : j = 1 := by omega
    subst hj9
    have e9 : o1 = ow := Option.some.inj ho
    rw [← e9]
    exact hc
  have hl3 := fm_L.put (L := o0 :: o1 :: some (fm_I x) :: t) (i := 2) (by simp) h9 hl2
  exact k C hL H locs ls2 hP hS hl3
theorem fm_ild3 {o0 o1 o2 : Option Value} {x : Int} {t : List (Option Value)} (hd : decode M.1 pc = .ok (.iload_n 3, 1)) (k : fm_W S ω Γ M P σ (pc + 1) (o0 :: o1 :: o2 :: some (fm_I x) :: t) (fm_I x :: st)) : fm_W S ω Γ M P σ pc (o0 :: o1 :: o2 :: some (fm_I x) :: t) (st) := by
  intro C hL H locs ls hP hS hl
  obtain ⟨hx, hb, hml, hown, hts, hr, hlk, hK, hD⟩ := id C
  exact lv_iload_n hx hb hd rfl (hl.2.2 3 _ rfl) (k C hL H locs ls hP hS hl)
theorem fm_ald3 {o0 o1 o2 : Option Value} {x : Nat} {t : List (Option Value)} (hd : decode M.1 pc = .ok (.aload_n 3, 1)) (k : fm_W S ω Γ M P σ (pc + 1) (o0 :: o1 :: o2 :: some (fm_r ω x) :: t) (fm_r ω x :: st)) : fm_W S ω Γ M P σ pc (o0 :: o1 :: o2 :: some (fm_r ω x) :: t) (st) := by
  intro C hL H locs ls hP hS hl
  obtain ⟨hx, hb, hml, hown, hts, hr, hlk, hK, hD⟩ := id C
  exact lv_aload_n hx hb hd rfl (hl.2.2 3 _ rfl) (k C hL H locs ls hP hS hl)
theorem fm_lld3 {o0 o1 o2 : Option Value} {x : Int64} {t : List (Option Value)} (hd : decode M.1 pc = .ok (.lload_n 3, 1)) (k : fm_W S ω Γ M P σ (pc + 1) (o0 :: o1 :: o2 :: some (.long x) :: t) (.long x :: st)) : fm_W S ω Γ M P σ pc (o0 :: o1 :: o2 :: some (.long x) :: t) (st) := by
  intro C hL H locs ls hP hS hl
  obtain ⟨hx, hb, hml, hown, hts, hr, hlk, hK, hD⟩ := id C
  exact lv_lload_n hx hb hd rfl (hl.2.2 3 _ rfl) (k C hL H locs ls hP hS hl)
theorem fm_ist3 {o0 o1 o2 : Option Value} {o : Option Value} {x : Int} {t : List (Option Value)} (hc : fm_c1 o2 = true) (hd : decode M.1 pc = .ok (.istore_n 3, 1)) (k : fm_W S ω Γ M P σ (pc + 1) (o0 :: o1 :: o2 :: some (fm_I x) :: t) (st)) : fm_W S ω Γ M P σ pc (o0 :: o1 :: o2 :: o :: t) (fm_I x :: st) := by
  intro C hL H locs ls hP hS hl
  obtain ⟨hx, hb, hml, hown, hts, hr, hlk, hK, hD⟩ := id C
  refine lv_istore_n (i := 3) hx hb hd rfl hl.has (by simp) rfl (fun ls2 hl2 => ?_)
  have h9 : ∀ (j : Nat) (ow : Option Value), j + 1 = 3 → (o0 :: o1 :: o2 :: o :: t)[j]? = some ow → fm_c1 ow = true := by
    intro j ow hj ho
    have hj9 : j = 2 := by omega
    subst hj9
    have e9 : o2 = ow := Option.some.inj ho
    rw [← e9]
    exact hc
  have hl3 := fm_L.put (L := o0 :: o1 :: o2 :: o :: t) (i := 3) (by simp) h9 hl2
  exact k C hL H locs ls2 hP hS hl3
theorem fm_ast3 {o0 o1 o2 : Option Value} {o : Option Value} {x : Nat} {t : List (Option Value)} (hc : fm_c1 o2 = true) (hd : decode M.1 pc = .ok (.astore_n 3, 1)) (k : fm_W S ω Γ M P σ (pc + 1) (o0 :: o1 :: o2 :: some (fm_r ω x) :: t) (st)) : fm_W S ω Γ M P σ pc (o0 :: o1 :: o2 :: o :: t) (fm_r ω x :: st) := by
  intro C hL H locs ls hP hS hl
  obtain ⟨hx, hb, hml, hown, hts, hr, hlk, hK, hD⟩ := id C
  refine lv_astore_n (i := 3) hx hb hd rfl hl.has (by simp) rfl (fun ls2 hl2 => ?_)
  have h9 : ∀ (j : Nat) (ow : Option Value), j + 1 = 3 → (o0 :: o1 :: o2 :: o :: t)[j]? = some ow → fm_c1 ow = true := by
    intro j ow hj ho
    have hj9 : j = 2 := by omega
    subst hj9
    have e9 : o2 = ow := Option.some.inj ho
    rw [← e9]
    exact hc
  have hl3 := fm_L.put (L := o0 :: o1 :: o2 :: o :: t) (i := 3) (by simp) h9 hl2
  exact k C hL H locs ls2 hP hS hl3
theorem fm_inc3 {o0 o1 o2 : Option Value} {x n : Int} {t : List (Option Value)} (hc : fm_c1 o2 = true) (hd : decode M.1 pc = .ok (.iinc 3 n, 3)) (k : fm_W S ω Γ M P σ (pc + 3) (o0 :: o1 :: o2 :: some (fm_I (x + n)) :: t) (st)) : fm_W S ω Γ M P σ pc (o0 :: o1 :: o2 :: some (fm_I x) :: t) (st) := by
  intro C hL H locs ls hP hS hl
  obtain ⟨hx, hb, hml, hown, hts, hr, hlk, hK, hD⟩ := id C
  obtain ⟨q, hq⟩ := List.getElem?_of_mem (fm_al_mem (L := o0 :: o1 :: o2 :: some (fm_I x) :: t) (q := (3, fm_I x)).mpr rfl)
  refine lv_iinc (v := Int32.ofInt (x + n)) hx hb hd hl.has (k := q) hq (Int32.ofInt_add x n).symm (by simp) rfl (fun ls2 hl2 => ?_)
  have h9 : ∀ (j : Nat) (ow : Option Value), j + 1 = 3 → (o0 :: o1 :: o2 :: some (fm_I x) :: t)[j]? = some ow → fm_c1 ow = true := by
    intro j ow hj ho
    have hj9 : j = 2 := by omega
    subst hj9
    have e9 : o2 = ow := Option.some.inj ho
    rw [← e9]
    exact hc
  have hl3 := fm_L.put (L := o0 :: o1 :: o2 :: some (fm_I x) :: t) (i := 3) (by simp) h9 hl2
  exact k C hL H locs ls2 hP hS hl3
theorem fm_ild4 {o0 o1 o2 o3 : Option Value} {x : Int} {t : List (Option Value)} (hd : decode M.1 pc = .ok (.iload 4, 2)) (k : fm_W S ω Γ M P σ (pc + 2) (o0 :: o1 :: o2 :: o3 :: some (fm_I x) :: t) (fm_I x :: st)) : fm_W S ω Γ M P σ pc (o0 :: o1 :: o2 :: o3 :: some (fm_I x) :: t) (st) := by
  intro C hL H locs ls hP hS hl
  obtain ⟨hx, hb, hml, hown, hts, hr, hlk, hK, hD⟩ := id C
  exact lv_iload hx hb hd (hl.2.2 4 _ rfl) (k C hL H locs ls hP hS hl)
theorem fm_ald4 {o0 o1 o2 o3 : Option Value} {x : Nat} {t : List (Option Value)} (hd : decode M.1 pc = .ok (.aload 4, 2)) (k : fm_W S ω Γ M P σ (pc + 2) (o0 :: o1 :: o2 :: o3 :: some (fm_r ω x) :: t) (fm_r ω x :: st)) : fm_W S ω Γ M P σ pc (o0 :: o1 :: o2 :: o3 :: some (fm_r ω x) :: t) (st) := by
  intro C hL H locs ls hP hS hl
  obtain ⟨hx, hb, hml, hown, hts, hr, hlk, hK, hD⟩ := id C
  exact lv_aload hx hb hd (hl.2.2 4 _ rfl) (k C hL H locs ls hP hS hl)
theorem fm_lld4 {o0 o1 o2 o3 : Option Value} {x : Int64} {t : List (Option Value)} (hd : decode M.1 pc = .ok (.lload 4, 2)) (k : fm_W S ω Γ M P σ (pc + 2) (o0 :: o1 :: o2 :: o3 :: some (.long x) :: t) (.long x :: st)) : fm_W S ω Γ M P σ pc (o0 :: o1 :: o2 :: o3 :: some (.long x) :: t) (st) := by
  intro C hL H locs ls hP hS hl
  obtain ⟨hx, hb, hml, hown, hts, hr, hlk, hK, hD⟩ := id C
  exact lv_lload hx hb hd (hl.2.2 4 _ rfl) (k C hL H locs ls hP hS hl)
theorem fm_ist4 {o0 o1 o2 o3 : Option Value} {o : Option Value} {x : Int} {t : List (Option Value)} (hc : fm_c1 o3 = true) (hd : decode M.1 pc = .ok (.istore 4, 2)) (k : fm_W S ω Γ M P σ (pc + 2) (o0 :: o1 :: o2 :: o3 :: some (fm_I x) :: t) (st)) : fm_W S ω Γ M P σ pc (o0 :: o1 :: o2 :: o3 :: o :: t) (fm_I x :: st) := by
  intro C hL H locs ls hP hS hl
  obtain ⟨hx, hb, hml, hown, hts, hr, hlk, hK, hD⟩ := id C
  refine lv_istore hx hb hd hl.has (by simp) rfl (fun ls2 hl2 => ?_)
  have h9 : ∀ (j : Nat) (ow : Option Value), j + 1 = 4 → (o0 :: o1 :: o2 :: o3 :: o :: t)[j]? = some ow → fm_c1 ow = true := by
    intro j ow hj ho
    have hj9 : j = 3 := by omega
    subst hj9
    have e9 : o3 = ow := Option.some.inj ho
    rw [← e9]
    exact hc
  have hl3 := fm_L.put (L := o0 :: o1 :: o2 :: o3 :: o :: t) (i := 4) (by simp) h9 hl2
  exact k C hL H locs ls2 hP hS hl3
theorem fm_ast4 {o0 o1 o2 o3 : Option Value} {o : Option Value} {x : Nat} {t : List (Option Value)} (hc : fm_c1 o3 = true) (hd : decode M.1 pc = .ok (.astore 4, 2)) (k : fm_W S ω Γ M P σ (pc + 2) (o0 :: o1 :: o2 :: o3 :: some (fm_r ω x) :: t) (st)) : fm_W S ω Γ M P σ pc (o0 :: o1 :: o2 :: o3 :: o :: t) (fm_r ω x :: st) := by
  intro C hL H locs ls hP hS hl
  obtain ⟨hx, hb, hml, hown, hts, hr, hlk, hK, hD⟩ := id C
  refine lv_astore hx hb hd hl.has (by simp) rfl (fun ls2 hl2 => ?_)
  have h9 : ∀ (j : Nat) (ow : Option Value), j + 1 = 4 → (o0 :: o1 :: o2 :: o3 :: o :: t)[j]? = some ow → fm_c1 ow = true := by
    intro j ow hj ho
    have hj9 : j = 3 := by omega
    subst hj9
    have e9 : o3 = ow := Option.some.inj ho
    rw [← e9]
    exact hc
  have hl3 := fm_L.put (L := o0 :: o1 :: o2 :: o3 :: o :: t) (i := 4) (by simp) h9 hl2
  exact k C hL H locs ls2 hP hS hl3
theorem fm_inc4 {o0 o1 o2 o3 : Option Value} {x n : Int} {t : List (Option Value)} (hc : fm_c1 o3 = true) (hd : decode M.1 pc = .ok (.iinc 4 n, 3)) (k : fm_W S ω Γ M P σ (pc + 3) (o0 :: o1 :: o2 :: o3 :: some (fm_I (x + n)) :: t) (st)) : fm_W S ω Γ M P σ pc (o0 :: o1 :: o2 :: o3 :: some (fm_I x) :: t) (st) := by
  intro C hL H locs ls hP hS hl
  obtain ⟨hx, hb, hml, hown, hts, hr, hlk, hK, hD⟩ := id C
  obtain ⟨q, hq⟩ := List.getElem?_of_mem (fm_al_mem (L := o0 :: o1 :: o2 :: o3 :: some (fm_I x) :: t) (q := (4, fm_I x)).mpr rfl)
  refine lv_iinc (v := Int32.ofInt (x + n)) hx hb hd hl.has (k := q) hq (Int32.ofInt_add x n).symm (by simp) rfl (fun ls2 hl2 => ?_)
  have h9 : ∀ (j : Nat) (ow : Option Value), j + 1 = 4 → (o0 :: o1 :: o2 :: o3 :: some (fm_I x) :: t)[j]? = some ow → fm_c1 ow = true := by
    intro j ow hj ho
    have hj9 : j = 3 := by omega
    subst hj9
    have e9 : o3 = ow := Option.some.inj ho
    rw [← e9]
    exact hc
  have hl3 := fm_L.put (L := o0 :: o1 :: o2 :: o3 :: some (fm_I x) :: t) (i := 4) (by simp) h9 hl2
  exact k C hL H locs ls2 hP hS hl3
theorem fm_ild5 {o0 o1 o2 o3 o4 : Option Value} {x : Int} {t : List (Option Value)} (hd : decode M.1 pc = .ok (.iload 5, 2)) (k : fm_W S ω Γ M P σ (pc + 2) (o0 :: o1 :: o2 :: o3 :: o4 :: some (fm_I x) :: t) (fm_I x :: st)) : fm_W S ω Γ M P σ pc (o0 :: o1 :: o2 :: o3 :: o4 :: some (fm_I x) :: t) (st) := by
  intro C hL H locs ls hP hS hl
  obtain ⟨hx, hb, hml, hown, hts, hr, hlk, hK, hD⟩ := id C
  exact lv_iload hx hb hd (hl.2.2 5 _ rfl) (k C hL H locs ls hP hS hl)
theorem fm_ald5 {o0 o1 o2 o3 o4 : Option Value} {x : Nat} {t : List (Option Value)} (hd : decode M.1 pc = .ok (.aload 5, 2)) (k : fm_W S ω Γ M P σ (pc + 2) (o0 :: o1 :: o2 :: o3 :: o4 :: some (fm_r ω x) :: t) (fm_r ω x :: st)) : fm_W S ω Γ M P σ pc (o0 :: o1 :: o2 :: o3 :: o4 :: some (fm_r ω x) :: t) (st) := by
  intro C hL H locs ls hP hS hl
  obtain ⟨hx, hb, hml, hown, hts, hr, hlk, hK, hD⟩ := id C
  exact lv_aload hx hb hd (hl.2.2 5 _ rfl) (k C hL H locs ls hP hS hl)
theorem fm_ist5 {o0 o1 o2 o3 o4 : Option Value} {o : Option Value} {x : Int} {t : List (Option Value)} (hc : fm_c1 o4 = true) (hd : decode M.1 pc = .ok (.istore 5, 2)) (k : fm_W S ω Γ M P σ (pc + 2) (o0 :: o1 :: o2 :: o3 :: o4 :: some (fm_I x) :: t) (st)) : fm_W S ω Γ M P σ pc (o0 :: o1 :: o2 :: o3 :: o4 :: o :: t) (fm_I x :: st) := by
  intro C hL H locs ls hP hS hl
  obtain ⟨hx, hb, hml, hown, hts, hr, hlk, hK, hD⟩ := id C
  refine lv_istore hx hb hd hl.has (by simp) rfl (fun ls2 hl2 => ?_)
  have h9 : ∀ (j : Nat) (ow : Option Value), j + 1 = 5 → (o0 :: o1 :: o2 :: o3 :: o4 :: o :: t)[j]? = some ow → fm_c1 ow = true := by
    intro j ow hj ho
    have hj9 : j = 4 := by omega
    subst hj9
    have e9 : o4 = ow := Option.some.inj ho
    rw [← e9]
    exact hc
  have hl3 := fm_L.put (L := o0 :: o1 :: o2 :: o3 :: o4 :: o :: t) (i := 5) (by simp) h9 hl2
  exact k C hL H locs ls2 hP hS hl3
theorem fm_ast5 {o0 o1 o2 o3 o4 : Option Value} {o : Option Value} {x : Nat} {t : List (Option Value)} (hc : fm_c1 o4 = true) (hd : decode M.1 pc = .ok (.astore 5, 2)) (k : fm_W S ω Γ M P σ (pc + 2) (o0 :: o1 :: o2 :: o3 :: o4 :: some (fm_r ω x) :: t) (st)) : fm_W S ω Γ M P σ pc (o0 :: o1 :: o2 :: o3 :: o4 :: o :: t) (fm_r ω x :: st) := by
  intro C hL H locs ls hP hS hl
  obtain ⟨hx, hb, hml, hown, hts, hr, hlk, hK, hD⟩ := id C
  refine lv_astore hx hb hd hl.has (by simp) rfl (fun ls2 hl2 => ?_)
  have h9 : ∀ (j : Nat) (ow : Option Value), j + 1 = 5 → (o0 :: o1 :: o2 :: o3 :: o4 :: o :: t)[j]? = some ow → fm_c1 ow = true := by
    intro j ow hj ho
    have hj9 : j = 4 := by omega
    subst hj9
    have e9 : o4 = ow := Option.some.inj ho
    rw [← e9]
    exact hc
  have hl3 := fm_L.put (L := o0 :: o1 :: o2 :: o3 :: o4 :: o :: t) (i := 5) (by simp) h9 hl2
  exact k C hL H locs ls2 hP hS hl3
theorem fm_inc5 {o0 o1 o2 o3 o4 : Option Value} {x n : Int} {t : List (Option Value)} (hc : fm_c1 o4 = true) (hd : decode M.1 pc = .ok (.iinc 5 n, 3)) (k : fm_W S ω Γ M P σ (pc + 3) (o0 :: o1 :: o2 :: o3 :: o4 :: some (fm_I (x + n)) :: t) (st)) : fm_W S ω Γ M P σ pc (o0 :: o1 :: o2 :: o3 :: o4 :: some (fm_I x) :: t) (st) := by
  intro C hL H locs ls hP hS hl
  obtain ⟨hx, hb, hml, hown, hts, hr, hlk, hK, hD⟩ := id C
  obtain ⟨q, hq⟩ := List.getElem?_of_mem (fm_al_mem (L := o0 :: o1 :: o2 :: o3 :: o4 :: some (fm_I x) :: t) (q := (5, fm_I x)).mpr rfl)
  refine lv_iinc (v := Int32.ofInt (x + n)) hx hb hd hl.has (k := q) hq (Int32.ofInt_add x n).symm (by simp) rfl (fun ls2 hl2 => ?_)
  have h9 : ∀ (j : Nat) (ow : Option Value), j + 1 = 5 → (o0 :: o1 :: o2 :: o3 :: o4 :: some (fm_I x) :: t)[j]? = some ow → fm_c1 ow = true := by
    intro j ow hj ho
    have hj9 : j = 4 := by omega
    subst hj9
    have e9 : o4 = ow := Option.some.inj ho
    rw [← e9]
    exact hc
  have hl3 := fm_L.put (L := o0 :: o1 :: o2 :: o3 :: o4 :: some (fm_I x) :: t) (i := 5) (by simp) h9 hl2
  exact k C hL H locs ls2 hP hS hl3
theorem fm_ild6 {o0 o1 o2 o3 o4 o5 : Option Value} {x : Int} {t : List (Option Value)} (hd : decode M.1 pc = .ok (.iload 6, 2)) (k : fm_W S ω Γ M P σ (pc + 2) (o0 :: o1 :: o2 :: o3 :: o4 :: o5 :: some (fm_I x) :: t) (fm_I x :: st)) : fm_W S ω Γ M P σ pc (o0 :: o1 :: o2 :: o3 :: o4 :: o5 :: some (fm_I x) :: t) (st) := by
  intro C hL H locs ls hP hS hl
  obtain ⟨hx, hb, hml, hown, hts, hr, hlk, hK, hD⟩ := id C
  exact lv_iload hx hb hd (hl.2.2 6 _ rfl) (k C hL H locs ls hP hS hl)
theorem fm_ald6 {o0 o1 o2 o3 o4 o5 : Option Value} {x : Nat} {t : List (Option Value)} (hd : decode M.1 pc = .ok (.aload 6, 2)) (k : fm_W S ω Γ M P σ (pc + 2) (o0 :: o1 :: o2 :: o3 :: o4 :: o5 :: some (fm_r ω x) :: t) (fm_r ω x :: st)) : fm_W S ω Γ M P σ pc (o0 :: o1 :: o2 :: o3 :: o4 :: o5 :: some (fm_r ω x) :: t) (st) := by
  intro C hL H locs ls hP hS hl
  obtain ⟨hx, hb, hml, hown, hts, hr, hlk, hK, hD⟩ := id C
  exact lv_aload hx hb hd (hl.2.2 6 _ rfl) (k C hL H locs ls hP hS hl)
theorem fm_ist6 {o0 o1 o2 o3 o4 o5 : Option Value} {o : Option Value} {x : Int} {t : List (Option Value)} (hc : fm_c1 o5 = true) (hd : decode M.1 pc = .ok (.istore 6, 2)) (k : fm_W S ω Γ M P σ (pc + 2) (o0 :: o1 :: o2 :: o3 :: o4 :: o5 :: some (fm_I x) :: t) (st)) : fm_W S ω Γ M P σ pc (o0 :: o1 :: o2 :: o3 :: o4 :: o5 :: o :: t) (fm_I x :: st) := by
  intro C hL H locs ls hP hS hl
  obtain ⟨hx, hb, hml, hown, hts, hr, hlk, hK, hD⟩ := id C
  refine lv_istore hx hb hd hl.has (by simp) rfl (fun ls2 hl2 => ?_)
  have h9 : ∀ (j : Nat) (ow : Option Value), j + 1 = 6 → (o0 :: o1 :: o2 :: o3 :: o4 :: o5 :: o :: t)[j]? = some ow → fm_c1 ow = true := by
    intro j ow hj ho
    have hj9 : j = 5 := by omega
    subst hj9
    have e9 : o5 = ow := Option.some.inj ho
    rw [← e9]
    exact hc
  have hl3 := fm_L.put (L := o0 :: o1 :: o2 :: o3 :: o4 :: o5 :: o :: t) (i := 6) (by simp) h9 hl2
  exact k C hL H locs ls2 hP hS hl3
theorem fm_ast6 {o0 o1 o2 o3 o4 o5 : Option Value} {o : Option Value} {x : Nat} {t : List (Option Value)} (hc : fm_c1 o5 = true) (hd : decode M.1 pc = .ok (.astore 6, 2)) (k : fm_W S ω Γ M P σ (pc + 2) (o0 :: o1 :: o2 :: o3 :: o4 :: o5 :: some (fm_r ω x) :: t) (st)) : fm_W S ω Γ M P σ pc (o0 :: o1 :: o2 :: o3 :: o4 :: o5 :: o :: t) (fm_r ω x :: st) := by
  intro C hL H locs ls hP hS hl
  obtain ⟨hx, hb, hml, hown, hts, hr, hlk, hK, hD⟩ := id C
  refine lv_astore hx hb hd hl.has (by simp) rfl (fun ls2 hl2 => ?_)
  have h9 : ∀ (j : Nat) (ow : Option Value), j + 1 = 6 → (o0 :: o1 :: o2 :: o3 :: o4 :: o5 :: o :: t)[j]? = some ow → fm_c1 ow = true := by
    intro j ow hj ho
    have hj9 : j = 5 := by omega
    subst hj9
    have e9 : o5 = ow := Option.some.inj ho
    rw [← e9]
    exact hc
  have hl3 := fm_L.put (L := o0 :: o1 :: o2 :: o3 :: o4 :: o5 :: o :: t) (i := 6) (by simp) h9 hl2
  exact k C hL H locs ls2 hP hS hl3
theorem fm_inc6 {o0 o1 o2 o3 o4 o5 : Option Value} {x n : Int} {t : List (Option Value)} (hc : fm_c1 o5 = true) (hd : decode M.1 pc = .ok (.iinc 6 n, 3)) (k : fm_W S ω Γ M P σ (pc + 3) (o0 :: o1 :: o2 :: o3 :: o4 :: o5 :: some (fm_I (x + n)) :: t) (st)) : fm_W S ω Γ M P σ pc (o0 :: o1 :: o2 :: o3 :: o4 :: o5 :: some (fm_I x) :: t) (st) := by
  intro C hL H locs ls hP hS hl
  obtain ⟨hx, hb, hml, hown, hts, hr, hlk, hK, hD⟩ := id C
  obtain ⟨q, hq⟩ := List.getElem?_of_mem (fm_al_mem (L := o0 :: o1 :: o2 :: o3 :: o4 :: o5 :: some (fm_I x) :: t) (q := (6, fm_I x)).mpr rfl)
  refine lv_iinc (v := Int32.ofInt (x + n)) hx hb hd hl.has (k := q) hq (Int32.ofInt_add x n).symm (by simp) rfl (fun ls2 hl2 => ?_)
  have h9 : ∀ (j : Nat) (ow : Option Value), j + 1 = 6 → (o0 :: o1 :: o2 :: o3 :: o4 :: o5 :: some (fm_I x) :: t)[j]? = some ow → fm_c1 ow = true := by
    intro j ow hj ho
    have hj9 : j = 5 := by omega
    subst hj9
    have e9 : o5 = ow := Option.some.inj ho
    rw [← e9]
    exact hc
  have hl3 := fm_L.put (L := o0 :: o1 :: o2 :: o3 :: o4 :: o5 :: some (fm_I x) :: t) (i := 6) (by simp) h9 hl2
  exact k C hL H locs ls2 hP hS hl3
theorem fm_ild7 {o0 o1 o2 o3 o4 o5 o6 : Option Value} {x : Int} {t : List (Option Value)} (hd : decode M.1 pc = .ok (.iload 7, 2)) (k : fm_W S ω Γ M P σ (pc + 2) (o0 :: o1 :: o2 :: o3 :: o4 :: o5 :: o6 :: some (fm_I x) :: t) (fm_I x :: st)) : fm_W S ω Γ M P σ pc (o0 :: o1 :: o2 :: o3 :: o4 :: o5 :: o6 :: some (fm_I x) :: t) (st) := by
  intro C hL H locs ls hP hS hl
  obtain ⟨hx, hb, hml, hown, hts, hr, hlk, hK, hD⟩ := id C
  exact lv_iload hx hb hd (hl.2.2 7 _ rfl) (k C hL H locs ls hP hS hl)
theorem fm_ald7 {o0 o1 o2 o3 o4 o5 o6 : Option Value} {x : Nat} {t : List (Option Value)} (hd : decode M.1 pc = .ok (.aload 7, 2)) (k : fm_W S ω Γ M P σ (pc + 2) (o0 :: o1 :: o2 :: o3 :: o4 :: o5 :: o6 :: some (fm_r ω x) :: t) (fm_r ω x :: st)) : fm_W S ω Γ M P σ pc (o0 :: o1 :: o2 :: o3 :: o4 :: o5 :: o6 :: some (fm_r ω x) :: t) (st) := by
  intro C hL H locs ls hP hS hl
  obtain ⟨hx, hb, hml, hown, hts, hr, hlk, hK, hD⟩ := id C
  exact lv_aload hx hb hd (hl.2.2 7 _ rfl) (k C hL H locs ls hP hS hl)
theorem fm_ist7 {o0 o1 o2 o3 o4 o5 o6 : Option Value} {o : Option Value} {x : Int} {t : List (Option Value)} (hc : fm_c1 o6 = true) (hd : decode M.1 pc = .ok (.istore 7, 2)) (k : fm_W S ω Γ M P σ (pc + 2) (o0 :: o1 :: o2 :: o3 :: o4 :: o5 :: o6 :: some (fm_I x) :: t) (st)) : fm_W S ω Γ M P σ pc (o0 :: o1 :: o2 :: o3 :: o4 :: o5 :: o6 :: o :: t) (fm_I x :: st) := by
  intro C hL H locs ls hP hS hl
  obtain ⟨hx, hb, hml, hown, hts, hr, hlk, hK, hD⟩ := id C
  refine lv_istore hx hb hd hl.has (by simp) rfl (fun ls2 hl2 => ?_)
  have h9 : ∀ (j : Nat) (ow : Option Value), j + 1 = 7 → (o0 :: o1 :: o2 :: o3 :: o4 :: o5 :: o6 :: o :: t)[j]? = some ow → fm_c1 ow = true := by
    intro j ow hj ho
    have hj9 : j = 6 := by omega
    subst hj9
    have e9 : o6 = ow := Option.some.inj ho
    rw [← e9]
    exact hc
  have hl3 := fm_L.put (L := o0 :: o1 :: o2 :: o3 :: o4 :: o5 :: o6 :: o :: t) (i := 7) (by simp) h9 hl2
  exact k C hL H locs ls2 hP hS hl3
theorem fm_ast7 {o0 o1 o2 o3 o4 o5 o6 : Option Value} {o : Option Value} {x : Nat} {t : List (Option Value)} (hc : fm_c1 o6 = true) (hd : decode M.1 pc = .ok (.astore 7, 2)) (k : fm_W S ω Γ M P σ (pc + 2) (o0 :: o1 :: o2 :: o3 :: o4 :: o5 :: o6 :: some (fm_r ω x) :: t) (st)) : fm_W S ω Γ M P σ pc (o0 :: o1 :: o2 :: o3 :: o4 :: o5 :: o6 :: o :: t) (fm_r ω x :: st) := by
  intro C hL H locs ls hP hS hl
  obtain ⟨hx, hb, hml, hown, hts, hr, hlk, hK, hD⟩ := id C
  refine lv_astore hx hb hd hl.has (by simp) rfl (fun ls2 hl2 => ?_)
  have h9 : ∀ (j : Nat) (ow : Option Value), j + 1 = 7 → (o0 :: o1 :: o2 :: o3 :: o4 :: o5 :: o6 :: o :: t)[j]? = some ow → fm_c1 ow = true := by
    intro j ow hj ho
    have hj9 : j = 6 := by omega
    subst hj9
    have e9 : o6 = ow := Option.some.inj ho
    rw [← e9]
    exact hc
  have hl3 := fm_L.put (L := o0 :: o1 :: o2 :: o3 :: o4 :: o5 :: o6 :: o :: t) (i := 7) (by simp) h9 hl2
  exact k C hL H locs ls2 hP hS hl3
theorem fm_inc7 {o0 o1 o2 o3 o4 o5 o6 : Option Value} {x n : Int} {t : List (Option Value)} (hc : fm_c1 o6 = true) (hd : decode M.1 pc = .ok (.iinc 7 n, 3)) (k : fm_W S ω Γ M P σ (pc + 3) (o0 :: o1 :: o2 :: o3 :: o4 :: o5 :: o6 :: some (fm_I (x + n)) :: t) (st)) : fm_W S ω Γ M P σ pc (o0 :: o1 :: o2 :: o3 :: o4 :: o5 :: o6 :: some (fm_I x) :: t) (st) := by
  intro C hL H locs ls hP hS hl
  obtain ⟨hx, hb, hml, hown, hts, hr, hlk, hK, hD⟩ := id C
  obtain ⟨q, hq⟩ := List.getElem?_of_mem (fm_al_mem (L := o0 :: o1 :: o2 :: o3 :: o4 :: o5 :: o6 :: some (fm_I x) :: t) (q := (7, fm_I x)).mpr rfl)
  refine lv_iinc (v := Int32.ofInt (x + n)) hx hb hd hl.has (k := q) hq (Int32.ofInt_add x n).symm (by simp) rfl (fun ls2 hl2 => ?_)
  have h9 : ∀ (j : Nat) (ow : Option Value), j + 1 = 7 → (o0 :: o1 :: o2 :: o3 :: o4 :: o5 :: o6 :: some (fm_I x) :: t)[j]? = some ow → fm_c1 ow = true := by
    intro j ow hj ho
    have hj9 : j = 6 := by omega
    subst hj9
    have e9 : o6 = ow := Option.some.inj ho
    rw [← e9]
    exact hc
  have hl3 := fm_L.put (L := o0 :: o1 :: o2 :: o3 :: o4 :: o5 :: o6 :: some (fm_I x) :: t) (i := 7) (by simp) h9 hl2
  exact k C hL H locs ls2 hP hS hl3
theorem fm_ild8 {o0 o1 o2 o3 o4 o5 o6 o7 : Option Value} {x : Int} {t : List (Option Value)} (hd : decode M.1 pc = .ok (.iload 8, 2)) (k : fm_W S ω Γ M P σ (pc + 2) (o0 :: o1 :: o2 :: o3 :: o4 :: o5 :: o6 :: o7 :: some (fm_I x) :: t) (fm_I x :: st)) : fm_W S ω Γ M P σ pc (o0 :: o1 :: o2 :: o3 :: o4 :: o5 :: o6 :: o7 :: some (fm_I x) :: t) (st) := by
  intro C hL H locs ls hP hS hl
  obtain ⟨hx, hb, hml, hown, hts, hr, hlk, hK, hD⟩ := id C
  exact lv_iload hx hb hd (hl.2.2 8 _ rfl) (k C hL H locs ls hP hS hl)
theorem fm_ald8 {o0 o1 o2 o3 o4 o5 o6 o7 : Option Value} {x : Nat} {t : List (Option Value)} (hd : decode M.1 pc = .ok (.aload 8, 2)) (k : fm_W S ω Γ M P σ (pc + 2) (o0 :: o1 :: o2 :: o3 :: o4 :: o5 :: o6 :: o7 :: some (fm_r ω x) :: t) (fm_r ω x :: st)) : fm_W S ω Γ M P σ pc (o0 :: o1 :: o2 :: o3 :: o4 :: o5 :: o6 :: o7 :: some (fm_r ω x) :: t) (st) := by
  intro C hL H locs ls hP hS hl
  obtain ⟨hx, hb, hml, hown, hts, hr, hlk, hK, hD⟩ := id C
  exact lv_aload hx hb hd (hl.2.2 8 _ rfl) (k C hL H locs ls hP hS hl)
theorem fm_ist8 {o0 o1 o2 o3 o4 o5 o6 o7 : Option Value} {o : Option Value} {x : Int} {t : List (Option Value)} (hc : fm_c1 o7 = true) (hd : decode M.1 pc = .ok (.istore 8, 2)) (k : fm_W S ω Γ M P σ (pc + 2) (o0 :: o1 :: o2 :: o3 :: o4 :: o5 :: o6 :: o7 :: some (fm_I x) :: t) (st)) : fm_W S ω Γ M P σ pc (o0 :: o1 :: o2 :: o3 :: o4 :: o5 :: o6 :: o7 :: o :: t) (fm_I x :: st) := by
  intro C hL H locs ls hP hS hl
  obtain ⟨hx, hb, hml, hown, hts, hr, hlk, hK, hD⟩ := id C
  refine lv_istore hx hb hd hl.has (by simp) rfl (fun ls2 hl2 => ?_)
  have h9 : ∀ (j : Nat) (ow : Option Value), j + 1 = 8 → (o0 :: o1 :: o2 :: o3 :: o4 :: o5 :: o6 :: o7 :: o :: t)[j]? = some ow → fm_c1 ow = true := by
    intro j ow hj ho
    have hj9 : j = 7 := by omega
    subst hj9
    have e9 : o7 = ow := Option.some.inj ho
    rw [← e9]
    exact hc
  have hl3 := fm_L.put (L := o0 :: o1 :: o2 :: o3 :: o4 :: o5 :: o6 :: o7 :: o :: t) (i := 8) (by simp) h9 hl2
  exact k C hL H locs ls2 hP hS hl3
theorem fm_ast8 {o0 o1 o2 o3 o4 o5 o6 o7 : Option Value} {o : Option Value} {x : Nat} {t : List (Option Value)} (hc : fm_c1 o7 = true) (hd : decode M.1 pc = .ok (.astore 8, 2)) (k : fm_W S ω Γ M P σ (pc + 2) (o0 :: o1 :: o2 :: o3 :: o4 :: o5 :: o6 :: o7 :: some (fm_r ω x) :: t) (st)) : fm_W S ω Γ M P σ pc (o0 :: o1 :: o2 :: o3 :: o4 :: o5 :: o6 :: o7 :: o :: t) (fm_r ω x :: st) := by
  intro C hL H locs ls hP hS hl
  obtain ⟨hx, hb, hml, hown, hts, hr, hlk, hK, hD⟩ := id C
  refine lv_astore hx hb hd hl.has (by simp) rfl (fun ls2 hl2 => ?_)
  have h9 : ∀ (j : Nat) (ow : Option Value), j + 1 = 8 → (o0 :: o1 :: o2 :: o3 :: o4 :: o5 :: o6 :: o7 :: o :: t)[j]? = some ow → fm_c1 ow = true := by
    intro j ow hj ho
    have hj9 : j = 7 := by omega
    subst hj9
    have e9 : o7 = ow := Option.some.inj ho
    rw [← e9]
    exact hc
  have hl3 := fm_L.put (L := o0 :: o1 :: o2 :: o3 :: o4 :: o5 :: o6 :: o7 :: o :: t) (i := 8) (by simp) h9 hl2
  exact k C hL H locs ls2 hP hS hl3
theorem fm_inc8 {o0 o1 o2 o3 o4 o5 o6 o7 : Option Value} {x n : Int} {t : List (Option Value)} (hc : fm_c1 o7 = true) (hd : decode M.1 pc = .ok (.iinc 8 n, 3)) (k : fm_W S ω Γ M P σ (pc + 3) (o0 :: o1 :: o2 :: o3 :: o4 :: o5 :: o6 :: o7 :: some (fm_I (x + n)) :: t) (st)) : fm_W S ω Γ M P σ pc (o0 :: o1 :: o2 :: o3 :: o4 :: o5 :: o6 :: o7 :: some (fm_I x) :: t) (st) := by
  intro C hL H locs ls hP hS hl
  obtain ⟨hx, hb, hml, hown, hts, hr, hlk, hK, hD⟩ := id C
  obtain ⟨q, hq⟩ := List.getElem?_of_mem (fm_al_mem (L := o0 :: o1 :: o2 :: o3 :: o4 :: o5 :: o6 :: o7 :: some (fm_I x) :: t) (q := (8, fm_I x)).mpr rfl)
  refine lv_iinc (v := Int32.ofInt (x + n)) hx hb hd hl.has (k := q) hq (Int32.ofInt_add x n).symm (by simp) rfl (fun ls2 hl2 => ?_)
  have h9 : ∀ (j : Nat) (ow : Option Value), j + 1 = 8 → (o0 :: o1 :: o2 :: o3 :: o4 :: o5 :: o6 :: o7 :: some (fm_I x) :: t)[j]? = some ow → fm_c1 ow = true := by
    intro j ow hj ho
    have hj9 : j = 7 := by omega
    subst hj9
    have e9 : o7 = ow := Option.some.inj ho
    rw [← e9]
    exact hc
  have hl3 := fm_L.put (L := o0 :: o1 :: o2 :: o3 :: o4 :: o5 :: o6 :: o7 :: some (fm_I x) :: t) (i := 8) (by simp) h9 hl2
  exact k C hL H locs ls2 hP hS hl3
theorem fm_ild9 {o0 o1 o2 o3 o4 o5 o6 o7 o8 : Option Value} {x : Int} {t : List (Option Value)} (hd : decode M.1 pc = .ok (.iload 9, 2)) (k : fm_W S ω Γ M P σ (pc + 2) (o0 :: o1 :: o2 :: o3 :: o4 :: o5 :: o6 :: o7 :: o8 :: some (fm_I x) :: t) (fm_I x :: st)) : fm_W S ω Γ M P σ pc (o0 :: o1 :: o2 :: o3 :: o4 :: o5 :: o6 :: o7 :: o8 :: some (fm_I x) :: t) (st) := by
  intro C hL H locs ls hP hS hl
  obtain ⟨hx, hb, hml, hown, hts, hr, hlk, hK, hD⟩ := id C
  exact lv_iload hx hb hd (hl.2.2 9 _ rfl) (k C hL H locs ls hP hS hl)
theorem fm_ald9 {o0 o1 o2 o3 o4 o5 o6 o7 o8 : Option Value} {x : Nat} {t : List (Option Value)} (hd : decode M.1 pc = .ok (.aload 9, 2)) (k : fm_W S ω Γ M P σ (pc + 2) (o0 :: o1 :: o2 :: o3 :: o4 :: o5 :: o6 :: o7 :: o8 :: some (fm_r ω x) :: t) (fm_r ω x :: st)) : fm_W S ω Γ M P σ pc (o0 :: o1 :: o2 :: o3 :: o4 :: o5 :: o6 :: o7 :: o8 :: some (fm_r ω x) :: t) (st) := by
  intro C hL H locs ls hP hS hl
  obtain ⟨hx, hb, hml, hown, hts, hr, hlk, hK, hD⟩ := id C
  exact lv_aload hx hb hd (hl.2.2 9 _ rfl) (k C hL H locs ls hP hS hl)
theorem fm_ist9 {o0 o1 o2 o3 o4 o5 o6 o7 o8 : Option Value} {o : Option Value} {x : Int} {t : List (Option Value)} (hc : fm_c1 o8 = true) (hd : decode M.1 pc = .ok (.istore 9, 2)) (k : fm_W S ω Γ M P σ (pc + 2) (o0 :: o1 :: o2 :: o3 :: o4 :: o5 :: o6 :: o7 :: o8 :: some (fm_I x) :: t) (st)) : fm_W S ω Γ M P σ pc (o0 :: o1 :: o2 :: o3 :: o4 :: o5 :: o6 :: o7 :: o8 :: o :: t) (fm_I x :: st) := by
  intro C hL H locs ls hP hS hl
  obtain ⟨hx, hb, hml, hown, hts, hr, hlk, hK, hD⟩ := id C
  refine lv_istore hx hb hd hl.has (by simp) rfl (fun ls2 hl2 => ?_)
  have h9 : ∀ (j : Nat) (ow : Option Value), j + 1 = 9 → (o0 :: o1 :: o2 :: o3 :: o4 :: o5 :: o6 :: o7 :: o8 :: o :: t)[j]? = some ow → fm_c1 ow = true := by
    intro j ow hj ho
    have hj9 : j = 8 := by omega
    subst hj9
    have e9 : o8 = ow := Option.some.inj ho
    rw [← e9]
    exact hc
  have hl3 := fm_L.put (L := o0 :: o1 :: o2 :: o3 :: o4 :: o5 :: o6 :: o7 :: o8 :: o :: t) (i := 9) (by simp) h9 hl2
  exact k C hL H locs ls2 hP hS hl3
theorem fm_ast9 {o0 o1 o2 o3 o4 o5 o6 o7 o8 : Option Value} {o : Option Value} {x : Nat} {t : List (Option Value)} (hc : fm_c1 o8 = true) (hd : decode M.1 pc = .ok (.astore 9, 2)) (k : fm_W S ω Γ M P σ (pc + 2) (o0 :: o1 :: o2 :: o3 :: o4 :: o5 :: o6 :: o7 :: o8 :: some (fm_r ω x) :: t) (st)) : fm_W S ω Γ M P σ pc (o0 :: o1 :: o2 :: o3 :: o4 :: o5 :: o6 :: o7 :: o8 :: o :: t) (fm_r ω x :: st) := by
  intro C hL H locs ls hP hS hl
  obtain ⟨hx, hb, hml, hown, hts, hr, hlk, hK, hD⟩ := id C
  refine lv_astore hx hb hd hl.has (by simp) rfl (fun ls2 hl2 => ?_)
  have h9 : ∀ (j : Nat) (ow : Option Value), j + 1 = 9 → (o0 :: o1 :: o2 :: o3 :: o4 :: o5 :: o6 :: o7 :: o8 :: o :: t)[j]? = some ow → fm_c1 ow = true := by
    intro j ow hj ho
    have hj9 : j = 8 := by omega
    subst hj9
    have e9 : o8 = ow := Option.some.inj ho
    rw [← e9]
    exact hc
  have hl3 := fm_L.put (L := o0 :: o1 :: o2 :: o3 :: o4 :: o5 :: o6 :: o7 :: o8 :: o :: t) (i := 9) (by simp) h9 hl2
  exact k C hL H locs ls2 hP hS hl3
theorem fm_inc9 {o0 o1 o2 o3 o4 o5 o6 o7 o8 : Option Value} {x n : Int} {t : List (Option Value)} (hc : fm_c1 o8 = true) (hd : decode M.1 pc = .ok (.iinc 9 n, 3)) (k : fm_W S ω Γ M P σ (pc + 3) (o0 :: o1 :: o2 :: o3 :: o4 :: o5 :: o6 :: o7 :: o8 :: some (fm_I (x + n)) :: t) (st)) : fm_W S ω Γ M P σ pc (o0 :: o1 :: o2 :: o3 :: o4 :: o5 :: o6 :: o7 :: o8 :: some (fm_I x) :: t) (st) := by
  intro C hL H locs ls hP hS hl
  obtain ⟨hx, hb, hml, hown, hts, hr, hlk, hK, hD⟩ := id C
  obtain ⟨q, hq⟩ := List.getElem?_of_mem (fm_al_mem (L := o0 :: o1 :: o2 :: o3 :: o4 :: o5 :: o6 :: o7 :: o8 :: some (fm_I x) :: t) (q := (9, fm_I x)).mpr rfl)
  refine lv_iinc (v := Int32.ofInt (x + n)) hx hb hd hl.has (k := q) hq (Int32.ofInt_add x n).symm (by simp) rfl (fun ls2 hl2 => ?_)
  have h9 : ∀ (j : Nat) (ow : Option Value), j + 1 = 9 → (o0 :: o1 :: o2 :: o3 :: o4 :: o5 :: o6 :: o7 :: o8 :: some (fm_I x) :: t)[j]? = some ow → fm_c1 ow = true := by
    intro j ow hj ho
    have hj9 : j = 8 := by omega
    subst hj9
    have e9 : o8 = ow := Option.some.inj ho
    rw [← e9]
    exact hc
  have hl3 := fm_L.put (L := o0 :: o1 :: o2 :: o3 :: o4 :: o5 :: o6 :: o7 :: o8 :: some (fm_I x) :: t) (i := 9) (by simp) h9 hl2
  exact k C hL H locs ls2 hP hS hl3
theorem fm_ild10 {o0 o1 o2 o3 o4 o5 o6 o7 o8 o9 : Option Value} {x : Int} {t : List (Option Value)} (hd : decode M.1 pc = .ok (.iload 10, 2)) (k : fm_W S ω Γ M P σ (pc + 2) (o0 :: o1 :: o2 :: o3 :: o4 :: o5 :: o6 :: o7 :: o8 :: o9 :: some (fm_I x) :: t) (fm_I x :: st)) : fm_W S ω Γ M P σ pc (o0 :: o1 :: o2 :: o3 :: o4 :: o5 :: o6 :: o7 :: o8 :: o9 :: some (fm_I x) :: t) (st) := by
  intro C hL H locs ls hP hS hl
  obtain ⟨hx, hb, hml, hown, hts, hr, hlk, hK, hD⟩ := id C
  exact lv_iload hx hb hd (hl.2.2 10 _ rfl) (k C hL H locs ls hP hS hl)
theorem fm_ald10 {o0 o1 o2 o3 o4 o5 o6 o7 o8 o9 : Option Value} {x : Nat} {t : List (Option Value)} (hd : decode M.1 pc = .ok (.aload 10, 2)) (k : fm_W S ω Γ M P σ (pc + 2) (o0 :: o1 :: o2 :: o3 :: o4 :: o5 :: o6 :: o7 :: o8 :: o9 :: some (fm_r ω x) :: t) (fm_r ω x :: st)) : fm_W S ω Γ M P σ pc (o0 :: o1 :: o2 :: o3 :: o4 :: o5 :: o6 :: o7 :: o8 :: o9 :: some (fm_r ω x) :: t) (st) := by
  intro C hL H locs ls hP hS hl
  obtain ⟨hx, hb, hml, hown, hts, hr, hlk, hK, hD⟩ := id C
  exact lv_aload hx hb hd (hl.2.2 10 _ rfl) (k C hL H locs ls hP hS hl)
theorem fm_ist10 {o0 o1 o2 o3 o4 o5 o6 o7 o8 o9 : Option Value} {o : Option Value} {x : Int} {t : List (Option Value)} (hc : fm_c1 o9 = true) (hd : decode M.1 pc = .ok (.istore 10, 2)) (k : fm_W S ω Γ M P σ (pc + 2) (o0 :: o1 :: o2 :: o3 :: o4 :: o5 :: o6 :: o7 :: o8 :: o9 :: some (fm_I x) :: t) (st)) : fm_W S ω Γ M P σ pc (o0 :: o1 :: o2 :: o3 :: o4 :: o5 :: o6 :: o7 :: o8 :: o9 :: o :: t) (fm_I x :: st) := by
  intro C hL H locs ls hP hS hl
  obtain ⟨hx, hb, hml, hown, hts, hr, hlk, hK, hD⟩ := id C
  refine lv_istore hx hb hd hl.has (by simp) rfl (fun ls2 hl2 => ?_)
  have h9 : ∀ (j : Nat) (ow : Option Value), j + 1 = 10 → (o0 :: o1 :: o2 :: o3 :: o4 :: o5 :: o6 :: o7 :: o8 :: o9 :: o :: t)[j]? = some ow → fm_c1 ow = true := by
    intro j ow hj ho
    have hj9 : j = 9 := by omega
    subst hj9
    have e9 : o9 = ow := Option.some.inj ho
    rw [← e9]
    exact hc
  have hl3 := fm_L.put (L := o0 :: o1 :: o2 :: o3 :: o4 :: o5 :: o6 :: o7 :: o8 :: o9 :: o :: t) (i := 10) (by simp) h9 hl2
  exact k C hL H locs ls2 hP hS hl3
theorem fm_ast10 {o0 o1 o2 o3 o4 o5 o6 o7 o8 o9 : Option Value} {o : Option Value} {x : Nat} {t : List (Option Value)} (hc : fm_c1 o9 = true) (hd : decode M.1 pc = .ok (.astore 10, 2)) (k : fm_W S ω Γ M P σ (pc + 2) (o0 :: o1 :: o2 :: o3 :: o4 :: o5 :: o6 :: o7 :: o8 :: o9 :: some (fm_r ω x) :: t) (st)) : fm_W S ω Γ M P σ pc (o0 :: o1 :: o2 :: o3 :: o4 :: o5 :: o6 :: o7 :: o8 :: o9 :: o :: t) (fm_r ω x :: st) := by
  intro C hL H locs ls hP hS hl
  obtain ⟨hx, hb, hml, hown, hts, hr, hlk, hK, hD⟩ := id C
  refine lv_astore hx hb hd hl.has (by simp) rfl (fun ls2 hl2 => ?_)
  have h9 : ∀ (j : Nat) (ow : Option Value), j + 1 = 10 → (o0 :: o1 :: o2 :: o3 :: o4 :: o5 :: o6 :: o7 :: o8 :: o9 :: o :: t)[j]? = some ow → fm_c1 ow = true := by
    intro j ow hj ho
    have hj9 : j = 9 := by omega
    subst hj9
    have e9 : o9 = ow := Option.some.inj ho
    rw [← e9]
    exact hc
  have hl3 := fm_L.put (L := o0 :: o1 :: o2 :: o3 :: o4 :: o5 :: o6 :: o7 :: o8 :: o9 :: o :: t) (i := 10) (by simp) h9 hl2
  exact k C hL H locs ls2 hP hS hl3
theorem fm_inc10 {o0 o1 o2 o3 o4 o5 o6 o7 o8 o9 : Option Value} {x n : Int} {t : List (Option Value)} (hc : fm_c1 o9 = true) (hd : decode M.1 pc = .ok (.iinc 10 n, 3)) (k : fm_W S ω Γ M P σ (pc + 3) (o0 :: o1 :: o2 :: o3 :: o4 :: o5 :: o6 :: o7 :: o8 :: o9 :: some (fm_I (x + n)) :: t) (st)) : fm_W S ω Γ M P σ pc (o0 :: o1 :: o2 :: o3 :: o4 :: o5 :: o6 :: o7 :: o8 :: o9 :: some (fm_I x) :: t) (st) := by
  intro C hL H locs ls hP hS hl
  obtain ⟨hx, hb, hml, hown, hts, hr, hlk, hK, hD⟩ := id C
  obtain ⟨q, hq⟩ := List.getElem?_of_mem (fm_al_mem (L := o0 :: o1 :: o2 :: o3 :: o4 :: o5 :: o6 :: o7 :: o8 :: o9 :: some (fm_I x) :: t) (q := (10, fm_I x)).mpr rfl)
  refine lv_iinc (v := Int32.ofInt (x + n)) hx hb hd hl.has (k := q) hq (Int32.ofInt_add x n).symm (by simp) rfl (fun ls2 hl2 => ?_)
  have h9 : ∀ (j : Nat) (ow : Option Value), j + 1 = 10 → (o0 :: o1 :: o2 :: o3 :: o4 :: o5 :: o6 :: o7 :: o8 :: o9 :: some (fm_I x) :: t)[j]? = some ow → fm_c1 ow = true := by
    intro j ow hj ho
    have hj9 : j = 9 := by omega
    subst hj9
    have e9 : o9 = ow := Option.some.inj ho
    rw [← e9]
    exact hc
  have hl3 := fm_L.put (L := o0 :: o1 :: o2 :: o3 :: o4 :: o5 :: o6 :: o7 :: o8 :: o9 :: some (fm_I x) :: t) (i := 10) (by simp) h9 hl2
  exact k C hL H locs ls2 hP hS hl3
theorem fm_ild11 {o0 o1 o2 o3 o4 o5 o6 o7 o8 o9 o10 : Option Value} {x : Int} {t : List (Option Value)} (hd : decode M.1 pc = .ok (.iload 11, 2)) (k : fm_W S ω Γ M P σ (pc + 2) (o0 :: o1 :: o2 :: o3 :: o4 :: o5 :: o6 :: o7 :: o8 :: o9 :: o10 :: some (fm_I x) :: t) (fm_I x :: st)) : fm_W S ω Γ M P σ pc (o0 :: o1 :: o2 :: o3 :: o4 :: o5 :: o6 :: o7 :: o8 :: o9 :: o10 :: some (fm_I x) :: t) (st) := by
  intro C hL H locs ls hP hS hl
  obtain ⟨hx, hb, hml, hown, hts, hr, hlk, hK, hD⟩ := id C
  exact lv_iload hx hb hd (hl.2.2 11 _ rfl) (k C hL H locs ls hP hS hl)
theorem fm_ald11 {o0 o1 o2 o3 o4 o5 o6 o7 o8 o9 o10 : Option Value} {x : Nat} {t : List (Option Value)} (hd : decode M.1 pc = .ok (.aload 11, 2)) (k : fm_W S ω Γ M P σ (pc + 2) (o0 :: o1 :: o2 :: o3 :: o4 :: o5 :: o6 :: o7 :: o8 :: o9 :: o10 :: some (fm_r ω x) :: t) (fm_r ω x :: st)) : fm_W S ω Γ M P σ pc (o0 :: o1 :: o2 :: o3 :: o4 :: o5 :: o6 :: o7 :: o8 :: o9 :: o10 :: some (fm_r ω x) :: t) (st) := by
  intro C hL H locs ls hP hS hl
  obtain ⟨hx, hb, hml, hown, hts, hr, hlk, hK, hD⟩ := id C
  exact lv_aload hx hb hd (hl.2.2 11 _ rfl) (k C hL H locs ls hP hS hl)
theorem fm_ist11 {o0 o1 o2 o3 o4 o5 o6 o7 o8 o9 o10 : Option Value} {o : Option Value} {x : Int} {t : List (Option Value)} (hc : fm_c1 o10 = true) (hd : decode M.1 pc = .ok (.istore 11, 2)) (k : fm_W S ω Γ M P σ (pc + 2) (o0 :: o1 :: o2 :: o3 :: o4 :: o5 :: o6 :: o7 :: o8 :: o9 :: o10 :: some (fm_I x) :: t) (st)) : fm_W S ω Γ M P σ pc (o0 :: o1 :: o2 :: o3 :: o4 :: o5 :: o6 :: o7 :: o8 :: o9 :: o10 :: o :: t) (fm_I x :: st) := by
  intro C hL H locs ls hP hS hl
  obtain ⟨hx, hb, hml, hown, hts, hr, hlk, hK, hD⟩ := id C
  refine lv_istore hx hb hd hl.has (by simp) rfl (fun ls2 hl2 => ?_)
  have h9 : ∀ (j : Nat) (ow : Option Value), j + 1 = 11 → (o0 :: o1 :: o2 :: o3 :: o4 :: o5 :: o6 :: o7 :: o8 :: o9 :: o10 :: o :: t)[j]? = some ow → fm_c1 ow = true := by
    intro j ow hj ho
    have hj9 : j = 10 := by omega
    subst hj9
    have e9 : o10 = ow := Option.some.inj ho
    rw [← e9]
    exact hc
  have hl3 := fm_L.put (L := o0 :: o1 :: o2 :: o3 :: o4 :: o5 :: o6 :: o7 :: o8 :: o9 :: o10 :: o :: t) (i := 11) (by simp) h9 hl2
  exact k C hL H locs ls2 hP hS hl3
theorem fm_ast11 {o0 o1 o2 o3 o4 o5 o6 o7 o8 o9 o10 : Option Value} {o : Option Value} {x : Nat} {t : List (Option Value)} (hc : fm_c1 o10 = true) (hd : decode M.1 pc = .ok (.astore 11, 2)) (k : fm_W S ω Γ M P σ (pc + 2) (o0 :: o1 :: o2 :: o3 :: o4 :: o5 :: o6 :: o7 :: o8 :: o9 :: o10 :: some (fm_r ω x) :: t) (st)) : fm_W S ω Γ M P σ pc (o0 :: o1 :: o2 :: o3 :: o4 :: o5 :: o6 :: o7 :: o8 :: o9 :: o10 :: o :: t) (fm_r ω x :: st) := by
  intro C hL H locs ls hP hS hl
  obtain ⟨hx, hb, hml, hown, hts, hr, hlk, hK, hD⟩ := id C
  refine lv_astore hx hb hd hl.has (by simp) rfl (fun ls2 hl2 => ?_)
  have h9 : ∀ (j : Nat) (ow : Option Value), j + 1 = 11 → (o0 :: o1 :: o2 :: o3 :: o4 :: o5 :: o6 :: o7 :: o8 :: o9 :: o10 :: o :: t)[j]? = some ow → fm_c1 ow = true := by
    intro j ow hj ho
    have hj9 : j = 10 := by omega
    subst hj9
    have e9 : o10 = ow := Option.some.inj ho
    rw [← e9]
    exact hc
  have hl3 := fm_L.put (L := o0 :: o1 :: o2 :: o3 :: o4 :: o5 :: o6 :: o7 :: o8 :: o9 :: o10 :: o :: t) (i := 11) (by simp) h9 hl2
  exact k C hL H locs ls2 hP hS hl3
theorem fm_inc11 {o0 o1 o2 o3 o4 o5 o6 o7 o8 o9 o10 : Option Value} {x n : Int} {t : List (Option Value)} (hc : fm_c1 o10 = true) (hd : decode M.1 pc = .ok (.iinc 11 n, 3)) (k : fm_W S ω Γ M P σ (pc + 3) (o0 :: o1 :: o2 :: o3 :: o4 :: o5 :: o6 :: o7 :: o8 :: o9 :: o10 :: some (fm_I (x + n)) :: t) (st)) : fm_W S ω Γ M P σ pc (o0 :: o1 :: o2 :: o3 :: o4 :: o5 :: o6 :: o7 :: o8 :: o9 :: o10 :: some (fm_I x) :: t) (st) := by
  intro C hL H locs ls hP hS hl
  obtain ⟨hx, hb, hml, hown, hts, hr, hlk, hK, hD⟩ := id C
  obtain ⟨q, hq⟩ := List.getElem?_of_mem (fm_al_mem (L := o0 :: o1 :: o2 :: o3 :: o4 :: o5 :: o6 :: o7 :: o8 :: o9 :: o10 :: some (fm_I x) :: t) (q := (11, fm_I x)).mpr rfl)
  refine lv_iinc (v := Int32.ofInt (x + n)) hx hb hd hl.has (k := q) hq (Int32.ofInt_add x n).symm (by simp) rfl (fun ls2 hl2 => ?_)
  have h9 : ∀ (j : Nat) (ow : Option Value), j + 1 = 11 → (o0 :: o1 :: o2 :: o3 :: o4 :: o5 :: o6 :: o7 :: o8 :: o9 :: o10 :: some (fm_I x) :: t)[j]? = some ow → fm_c1 ow = true := by
    intro j ow hj ho
    have hj9 : j = 10 := by omega
    subst hj9
    have e9 : o10 = ow := Option.some.inj ho
    rw [← e9]
    exact hc
  have hl3 := fm_L.put (L := o0 :: o1 :: o2 :: o3 :: o4 :: o5 :: o6 :: o7 :: o8 :: o9 :: o10 :: some (fm_I x) :: t) (i := 11) (by simp) h9 hl2
  exact k C hL H locs ls2 hP hS hl3
theorem fm_ild12 {o0 o1 o2 o3 o4 o5 o6 o7 o8 o9 o10 o11 : Option Value} {x : Int} {t : List (Option Value)} (hd : decode M.1 pc = .ok (.iload 12, 2)) (k : fm_W S ω Γ M P σ (pc + 2) (o0 :: o1 :: o2 :: o3 :: o4 :: o5 :: o6 :: o7 :: o8 :: o9 :: o10 :: o11 :: some (fm_I x) :: t) (fm_I x :: st)) : fm_W S ω Γ M P σ pc (o0 :: o1 :: o2 :: o3 :: o4 :: o5 :: o6 :: o7 :: o8 :: o9 :: o10 :: o11 :: some (fm_I x) :: t) (st) := by
  intro C hL H locs ls hP hS hl
  obtain ⟨hx, hb, hml, hown, hts, hr, hlk, hK, hD⟩ := id C
  exact lv_iload hx hb hd (hl.2.2 12 _ rfl) (k C hL H locs ls hP hS hl)
theorem fm_ald12 {o0 o1 o2 o3 o4 o5 o6 o7 o8 o9 o10 o11 : Option Value} {x : Nat} {t : List (Option Value)} (hd : decode M.1 pc = .ok (.aload 12, 2)) (k : fm_W S ω Γ M P σ (pc + 2) (o0 :: o1 :: o2 :: o3 :: o4 :: o5 :: o6 :: o7 :: o8 :: o9 :: o10 :: o11 :: some (fm_r ω x) :: t) (fm_r ω x :: st)) : fm_W S ω Γ M P σ pc (o0 :: o1 :: o2 :: o3 :: o4 :: o5 :: o6 :: o7 :: o8 :: o9 :: o10 :: o11 :: some (fm_r ω x) :: t) (st) := by
  intro C hL H locs ls hP hS hl
  obtain ⟨hx, hb, hml, hown, hts, hr, hlk, hK, hD⟩ := id C
  exact lv_aload hx hb hd (hl.2.2 12 _ rfl) (k C hL H locs ls hP hS hl)
theorem fm_ist12 {o0 o1 o2 o3 o4 o5 o6 o7 o8 o9 o10 o11 : Option Value} {o : Option Value} {x : Int} {t : List (Option Value)} (hc : fm_c1 o11 = true) (hd : decode M.1 pc = .ok (.istore 12, 2)) (k : fm_W S ω Γ M P σ (pc + 2) (o0 :: o1 :: o2 :: o3 :: o4 :: o5 :: o6 :: o7 :: o8 :: o9 :: o10 :: o11 :: some (fm_I x) :: t) (st)) : fm_W S ω Γ M P σ pc (o0 :: o1 :: o2 :: o3 :: o4 :: o5 :: o6 :: o7 :: o8 :: o9 :: o10 :: o11 :: o :: t) (fm_I x :: st) := by
  intro C hL H locs ls hP hS hl
  obtain ⟨hx, hb, hml, hown, hts, hr, hlk, hK, hD⟩ := id C
  refine lv_istore hx hb hd hl.has (by simp) rfl (fun ls2 hl2 => ?_)
  have h9 : ∀ (j : Nat) (ow : Option Value), j + 1 = 12 → (o0 :: o1 :: o2 :: o3 :: o4 :: o5 :: o6 :: o7 :: o8 :: o9 :: o10 :: o11 :: o :: t)[j]? = some ow → fm_c1 ow = true := by
    intro j ow hj ho
    have hj9 : j = 11 := by omega
    subst hj9
    have e9 : o11 = ow := Option.some.inj ho
    rw [← e9]
    exact hc
  have hl3 := fm_L.put (L := o0 :: o1 :: o2 :: o3 :: o4 :: o5 :: o6 :: o7 :: o8 :: o9 :: o10 :: o11 :: o :: t) (i := 12) (by simp) h9 hl2
  exact k C hL H locs ls2 hP hS hl3
theorem fm_ast12 {o0 o1 o2 o3 o4 o5 o6 o7 o8 o9 o10 o11 : Option Value} {o : Option Value} {x : Nat} {t : List (Option Value)} (hc : fm_c1 o11 = true) (hd : decode M.1 pc = .ok (.astore 12, 2)) (k : fm_W S ω Γ M P σ (pc + 2) (o0 :: o1 :: o2 :: o3 :: o4 :: o5 :: o6 :: o7 :: o8 :: o9 :: o10 :: o11 :: some (fm_r ω x) :: t) (st)) : fm_W S ω Γ M P σ pc (o0 :: o1 :: o2 :: o3 :: o4 :: o5 :: o6 :: o7 :: o8 :: o9 :: o10 :: o11 :: o :: t) (fm_r ω x :: st) := by
  intro C hL H locs ls hP hS hl
  obtain ⟨hx, hb, hml, hown, hts, hr, hlk, hK, hD⟩ := id C
  refine lv_astore hx hb hd hl.has (by simp) rfl (fun ls2 hl2 => ?_)
  have h9 : ∀ (j : Nat) (ow : Option Value), j + 1 = 12 → (o0 :: o1 :: o2 :: o3 :: o4 :: o5 :: o6 :: o7 :: o8 :: o9 :: o10 :: o11 :: o :: t)[j]? = some ow → fm_c1 ow = true := by
    intro j ow hj ho
    have hj9 : j = 11 := by omega
    subst hj9
    have e9 : o11 = ow := Option.some.inj ho
    rw [← e9]
    exact hc
  have hl3 := fm_L.put (L := o0 :: o1 :: o2 :: o3 :: o4 :: o5 :: o6 :: o7 :: o8 :: o9 :: o10 :: o11 :: o :: t) (i := 12) (by simp) h9 hl2
  exact k C hL H locs ls2 hP hS hl3
theorem fm_inc12 {o0 o1 o2 o3 o4 o5 o6 o7 o8 o9 o10 o11 : Option Value} {x n : Int} {t : List (Option Value)} (hc : fm_c1 o11 = true) (hd : decode M.1 pc = .ok (.iinc 12 n, 3)) (k : fm_W S ω Γ M P σ (pc + 3) (o0 :: o1 :: o2 :: o3 :: o4 :: o5 :: o6 :: o7 :: o8 :: o9 :: o10 :: o11 :: some (fm_I (x + n)) :: t) (st)) : fm_W S ω Γ M P σ pc (o0 :: o1 :: o2 :: o3 :: o4 :: o5 :: o6 :: o7 :: o8 :: o9 :: o10 :: o11 :: some (fm_I x) :: t) (st) := by
  intro C hL H locs ls hP hS hl
  obtain ⟨hx, hb, hml, hown, hts, hr, hlk, hK, hD⟩ := id C
  obtain ⟨q, hq⟩ := List.getElem?_of_mem (fm_al_mem (L := o0 :: o1 :: o2 :: o3 :: o4 :: o5 :: o6 :: o7 :: o8 :: o9 :: o10 :: o11 :: some (fm_I x) :: t) (q := (12, fm_I x)).mpr rfl)
  refine lv_iinc (v := Int32.ofInt (x + n)) hx hb hd hl.has (k := q) hq (Int32.ofInt_add x n).symm (by simp) rfl (fun ls2 hl2 => ?_)
  have h9 : ∀ (j : Nat) (ow : Option Value), j + 1 = 12 → (o0 :: o1 :: o2 :: o3 :: o4 :: o5 :: o6 :: o7 :: o8 :: o9 :: o10 :: o11 :: some (fm_I x) :: t)[j]? = some ow → fm_c1 ow = true := by
    intro j ow hj ho
    have hj9 : j = 11 := by omega
    subst hj9
    have e9 : o11 = ow := Option.some.inj ho
    rw [← e9]
    exact hc
  have hl3 := fm_L.put (L := o0 :: o1 :: o2 :: o3 :: o4 :: o5 :: o6 :: o7 :: o8 :: o9 :: o10 :: o11 :: some (fm_I x) :: t) (i := 12) (by simp) h9 hl2
  exact k C hL H locs ls2 hP hS hl3
theorem fm_ild13 {o0 o1 o2 o3 o4 o5 o6 o7 o8 o9 o10 o11 o12 : Option Value} {x : Int} {t : List (Option Value)} (hd : decode M.1 pc = .ok (.iload 13, 2)) (k : fm_W S ω Γ M P σ (pc + 2) (o0 :: o1 :: o2 :: o3 :: o4 :: o5 :: o6 :: o7 :: o8 :: o9 :: o10 :: o11 :: o12 :: some (fm_I x) :: t) (fm_I x :: st)) : fm_W S ω Γ M P σ pc (o0 :: o1 :: o2 :: o3 :: o4 :: o5 :: o6 :: o7 :: o8 :: o9 :: o10 :: o11 :: o12 :: some (fm_I x) :: t) (st) := by
  intro C hL H locs ls hP hS hl
  obtain ⟨hx, hb, hml, hown, hts, hr, hlk, hK, hD⟩ := id C
  exact lv_iload hx hb hd (hl.2.2 13 _ rfl) (k C hL H locs ls hP hS hl)
theorem fm_ald13 {o0 o1 o2 o3 o4 o5 o6 o7 o8 o9 o10 o11 o12 : Option Value} {x : Nat} {t : List (Option Value)} (hd : decode M.1 pc = .ok (.aload 13, 2)) (k : fm_W S ω Γ M P σ (pc + 2) (o0 :: o1 :: o2 :: o3 :: o4 :: o5 :: o6 :: o7 :: o8 :: o9 :: o10 :: o11 :: o12 :: some (fm_r ω x) :: t) (fm_r ω x :: st)) : fm_W S ω Γ M P σ pc (o0 :: o1 :: o2 :: o3 :: o4 :: o5 :: o6 :: o7 :: o8 :: o9 :: o10 :: o11 :: o12 :: some (fm_r ω x) :: t) (st) := by
  intro C hL H locs ls hP hS hl
  obtain ⟨hx, hb, hml, hown, hts, hr, hlk, hK, hD⟩ := id C
  exact lv_aload hx hb hd (hl.2.2 13 _ rfl) (k C hL H locs ls hP hS hl)
theorem fm_ist13 {o0 o1 o2 o3 o4 o5 o6 o7 o8 o9 o10 o11 o12 : Option Value} {o : Option Value} {x : Int} {t : List (Option Value)} (hc : fm_c1 o12 = true) (hd : decode M.1 pc = .ok (.istore 13, 2)) (k : fm_W S ω Γ M P σ (pc + 2) (o0 :: o1 :: o2 :: o3 :: o4 :: o5 :: o6 :: o7 :: o8 :: o9 :: o10 :: o11 :: o12 :: some (fm_I x) :: t) (st)) : fm_W S ω Γ M P σ pc (o0 :: o1 :: o2 :: o3 :: o4 :: o5 :: o6 :: o7 :: o8 :: o9 :: o10 :: o11 :: o12 :: o :: t) (fm_I x :: st) := by
  intro C hL H locs ls hP hS hl
  obtain ⟨hx, hb, hml, hown, hts, hr, hlk, hK, hD⟩ := id C
  refine lv_istore hx hb hd hl.has (by simp) rfl (fun ls2 hl2 => ?_)
  have h9 : ∀ (j : Nat) (ow : Option Value), j + 1 = 13 → (o0 :: o1 :: o2 :: o3 :: o4 :: o5 :: o6 :: o7 :: o8 :: o9 :: o10 :: o11 :: o12 :: o :: t)[j]? = some ow → fm_c1 ow = true := by
    intro j ow hj ho
    have hj9 : j = 12 := by omega
    subst hj9
    have e9 : o12 = ow := Option.some.inj ho
    rw [← e9]
    exact hc
  have hl3 := fm_L.put (L := o0 :: o1 :: o2 :: o3 :: o4 :: o5 :: o6 :: o7 :: o8 :: o9 :: o10 :: o11 :: o12 :: o :: t) (i := 13) (by simp) h9 hl2
  exact k C hL H locs ls2 hP hS hl3
theorem fm_ast13 {o0 o1 o2 o3 o4 o5 o6 o7 o8 o9 o10 o11 o12 : Option Value} {o : Option Value} {x : Nat} {t : List (Option Value)} (hc : fm_c1 o12 = true) (hd : decode M.1 pc = .ok (.astore 13, 2)) (k : fm_W S ω Γ M P σ (pc + 2) (o0 :: o1 :: o2 :: o3 :: o4 :: o5 :: o6 :: o7 :: o8 :: o9 :: o10 :: o11 :: o12 :: some (fm_r ω x) :: t) (st)) : fm_W S ω Γ M P σ pc (o0 :: o1 :: o2 :: o3 :: o4 :: o5 :: o6 :: o7 :: o8 :: o9 :: o10 :: o11 :: o12 :: o :: t) (fm_r ω x :: st) := by
  intro C hL H locs ls hP hS hl
  obtain ⟨hx, hb, hml, hown, hts, hr, hlk, hK, hD⟩ := id C
  refine lv_astore hx hb hd hl.has (by simp) rfl (fun ls2 hl2 => ?_)
  have h9 : ∀ (j : Nat) (ow : Option Value), j + 1 = 13 → (o0 :: o1 :: o2 :: o3 :: o4 :: o5 :: o6 :: o7 :: o8 :: o9 :: o10 :: o11 :: o12 :: o :: t)[j]? = some ow → fm_c1 ow = true := by
    intro j ow hj ho
    have hj9 : j = 12 := by omega
    subst hj9
    have e9 : o12 = ow := Option.some.inj ho
    rw [← e9]
    exact hc
  have hl3 := fm_L.put (L := o0 :: o1 :: o2 :: o3 :: o4 :: o5 :: o6 :: o7 :: o8 :: o9 :: o10 :: o11 :: o12 :: o :: t) (i := 13) (by simp) h9 hl2
  exact k C hL H locs ls2 hP hS hl3
theorem fm_inc13 {o0 o1 o2 o3 o4 o5 o6 o7 o8 o9 o10 o11 o12 : Option Value} {x n : Int} {t : List (Option Value)} (hc : fm_c1 o12 = true) (hd : decode M.1 pc = .ok (.iinc 13 n, 3)) (k : fm_W S ω Γ M P σ (pc + 3) (o0 :: o1 :: o2 :: o3 :: o4 :: o5 :: o6 :: o7 :: o8 :: o9 :: o10 :: o11 :: o12 :: some (fm_I (x + n)) :: t) (st)) : fm_W S ω Γ M P σ pc (o0 :: o1 :: o2 :: o3 :: o4 :: o5 :: o6 :: o7 :: o8 :: o9 :: o10 :: o11 :: o12 :: some (fm_I x) :: t) (st) := by
  intro C hL H locs ls hP hS hl
  obtain ⟨hx, hb, hml, hown, hts, hr, hlk, hK, hD⟩ := id C
  obtain ⟨q, hq⟩ := List.getElem?_of_mem (fm_al_mem (L := o0 :: o1 :: o2 :: o3 :: o4 :: o5 :: o6 :: o7 :: o8 :: o9 :: o10 :: o11 :: o12 :: some (fm_I x) :: t) (q := (13, fm_I x)).mpr rfl)
  refine lv_iinc (v := Int32.ofInt (x + n)) hx hb hd hl.has (k := q) hq (Int32.ofInt_add x n).symm (by simp) rfl (fun ls2 hl2 => ?_)
  have h9 : ∀ (j : Nat) (ow : Option Value), j + 1 = 13 → (o0 :: o1 :: o2 :: o3 :: o4 :: o5 :: o6 :: o7 :: o8 :: o9 :: o10 :: o11 :: o12 :: some (fm_I x) :: t)[j]? = some ow → fm_c1 ow = true := by
    intro j ow hj ho
    have hj9 : j = 12 := by omega
    subst hj9
    have e9 : o12 = ow := Option.some.inj ho
    rw [← e9]
    exact hc
  have hl3 := fm_L.put (L := o0 :: o1 :: o2 :: o3 :: o4 :: o5 :: o6 :: o7 :: o8 :: o9 :: o10 :: o11 :: o12 :: some (fm_I x) :: t) (i := 13) (by simp) h9 hl2
  exact k C hL H locs ls2 hP hS hl3
theorem fm_icmp_eq {x y : Int} (rx : fm_R x) (ry : fm_R y) {off : Int} (tgt : Nat) (hd : decode M.1 pc = .ok (.if_icmp .eq off, 3)) (ht : (pc : Int) + off = (tgt : Int)) (kt : x = y → fm_W S ω Γ M P σ tgt L st) (kf : ¬ (x = y) → fm_W S ω Γ M P σ (pc + 3) L st) : fm_W S ω Γ M P σ pc L (fm_I y :: fm_I x :: st) := by
  intro C hL H locs ls hP hS hl
  obtain ⟨hx, hb, -⟩ := id C
  exact lv_icmp_eq hx hb hd ht (fun q => kt ((fm_eq rx ry).mp q) C hL H locs ls hP hS hl) (fun q => kf (fun r => q ((fm_eq rx ry).mpr r)) C hL H locs ls hP hS hl)
theorem fm_icmp_ne {x y : Int} (rx : fm_R x) (ry : fm_R y) {off : Int} (tgt : Nat) (hd : decode M.1 pc = .ok (.if_icmp .ne off, 3)) (ht : (pc : Int) + off = (tgt : Int)) (kt : ¬ (x = y) → fm_W S ω Γ M P σ tgt L st) (kf : x = y → fm_W S ω Γ M P σ (pc + 3) L st) : fm_W S ω Γ M P σ pc L (fm_I y :: fm_I x :: st) := by
  intro C hL H locs ls hP hS hl
  obtain ⟨hx, hb, -⟩ := id C
  exact lv_icmp_ne hx hb hd ht (fun q => kt (fun r => q ((fm_eq rx ry).mpr r)) C hL H locs ls hP hS hl) (fun q => kf ((fm_eq rx ry).mp q) C hL H locs ls hP hS hl)
theorem fm_icmp_lt {x y : Int} (rx : fm_R x) (ry : fm_R y) {off : Int} (tgt : Nat) (hd : decode M.1 pc = .ok (.if_icmp .lt off, 3)) (ht : (pc : Int) + off = (tgt : Int)) (kt : x < y → fm_W S ω Γ M P σ tgt L st) (kf : ¬ (x < y) → fm_W S ω Γ M P σ (pc + 3) L st) : fm_W S ω Γ M P σ pc L (fm_I y :: fm_I x :: st) := by
  intro C hL H locs ls hP hS hl
  obtain ⟨hx, hb, -⟩ := id C
  exact lv_icmp_lt hx hb hd ht (fun q => kt ((fm_lt rx ry).mp q) C hL H locs ls hP hS hl) (fun q => kf (fun r => q ((fm_lt rx ry).mpr r)) C hL H locs ls hP hS hl)
theorem fm_icmp_ge {x y : Int} (rx : fm_R x) (ry : fm_R y) {off : Int} (tgt : Nat) (hd : decode M.1 pc = .ok (.if_icmp .ge off, 3)) (ht : (pc : Int) + off = (tgt : Int)) (kt : y ≤ x → fm_W S ω Γ M P σ tgt L st) (kf : ¬ (y ≤ x) → fm_W S ω Γ M P σ (pc + 3) L st) : fm_W S ω Γ M P σ pc L (fm_I y :: fm_I x :: st) := by
  intro C hL H locs ls hP hS hl
  obtain ⟨hx, hb, -⟩ := id C
  exact lv_icmp_ge hx hb hd ht (fun q => kt ((fm_le ry rx).mp q) C hL H locs ls hP hS hl) (fun q => kf (fun r => q ((fm_le ry rx).mpr r)) C hL H locs ls hP hS hl)
theorem fm_icmp_gt {x y : Int} (rx : fm_R x) (ry : fm_R y) {off : Int} (tgt : Nat) (hd : decode M.1 pc = .ok (.if_icmp .gt off, 3)) (ht : (pc : Int) + off = (tgt : Int)) (kt : y < x → fm_W S ω Γ M P σ tgt L st) (kf : ¬ (y < x) → fm_W S ω Γ M P σ (pc + 3) L st) : fm_W S ω Γ M P σ pc L (fm_I y :: fm_I x :: st) := by
  intro C hL H locs ls hP hS hl
  obtain ⟨hx, hb, -⟩ := id C
  exact lv_icmp_gt hx hb hd ht (fun q => kt ((fm_lt ry rx).mp q) C hL H locs ls hP hS hl) (fun q => kf (fun r => q ((fm_lt ry rx).mpr r)) C hL H locs ls hP hS hl)
theorem fm_icmp_le {x y : Int} (rx : fm_R x) (ry : fm_R y) {off : Int} (tgt : Nat) (hd : decode M.1 pc = .ok (.if_icmp .le off, 3)) (ht : (pc : Int) + off = (tgt : Int)) (kt : x ≤ y → fm_W S ω Γ M P σ tgt L st) (kf : ¬ (x ≤ y) → fm_W S ω Γ M P σ (pc + 3) L st) : fm_W S ω Γ M P σ pc L (fm_I y :: fm_I x :: st) := by
  intro C hL H locs ls hP hS hl
  obtain ⟨hx, hb, -⟩ := id C
  exact lv_icmp_le hx hb hd ht (fun q => kt ((fm_le rx ry).mp q) C hL H locs ls hP hS hl) (fun q => kf (fun r => q ((fm_le rx ry).mpr r)) C hL H locs ls hP hS hl)
theorem fm_if_eq {x : Int} (rx : fm_R x) {off : Int} (tgt : Nat) (hd : decode M.1 pc = .ok (.ifCond .eq off, 3)) (ht : (pc : Int) + off = (tgt : Int)) (kt : x = 0 → fm_W S ω Γ M P σ tgt L st) (kf : ¬ (x = 0) → fm_W S ω Γ M P σ (pc + 3) L st) : fm_W S ω Γ M P σ pc L (fm_I x :: st) := by
  intro C hL H locs ls hP hS hl
  obtain ⟨hx, hb, -⟩ := id C
  exact lv_if_eq hx hb hd ht (fun q => kt ((fm_eq rx ⟨by decide, by decide⟩).mp q) C hL H locs ls hP hS hl) (fun q => kf (fun r => q ((fm_eq rx ⟨by decide, by decide⟩).mpr r)) C hL H locs ls hP hS hl)
theorem fm_if_ne {x : Int} (rx : fm_R x) {off : Int} (tgt : Nat) (hd : decode M.1 pc = .ok (.ifCond .ne off, 3)) (ht : (pc : Int) + off = (tgt : Int)) (kt : ¬ (x = 0) → fm_W S ω Γ M P σ tgt L st) (kf : x = 0 → fm_W S ω Γ M P σ (pc + 3) L st) : fm_W S ω Γ M P σ pc L (fm_I x :: st) := by
  intro C hL H locs ls hP hS hl
  obtain ⟨hx, hb, -⟩ := id C
  exact lv_if_ne hx hb hd ht (fun q => kt (fun r => q ((fm_eq rx ⟨by decide, by decide⟩).mpr r)) C hL H locs ls hP hS hl) (fun q => kf ((fm_eq rx ⟨by decide, by decide⟩).mp q) C hL H locs ls hP hS hl)
theorem fm_if_lt {x : Int} (rx : fm_R x) {off : Int} (tgt : Nat) (hd : decode M.1 pc = .ok (.ifCond .lt off, 3)) (ht : (pc : Int) + off = (tgt : Int)) (kt : x < 0 → fm_W S ω Γ M P σ tgt L st) (kf : ¬ (x < 0) → fm_W S ω Γ M P σ (pc + 3) L st) : fm_W S ω Γ M P σ pc L (fm_I x :: st) := by
  intro C hL H locs ls hP hS hl
  obtain ⟨hx, hb, -⟩ := id C
  exact lv_if_lt hx hb hd ht (fun q => kt ((fm_lt rx ⟨by decide, by decide⟩).mp q) C hL H locs ls hP hS hl) (fun q => kf (fun r => q ((fm_lt rx ⟨by decide, by decide⟩).mpr r)) C hL H locs ls hP hS hl)
theorem fm_if_ge {x : Int} (rx : fm_R x) {off : Int} (tgt : Nat) (hd : decode M.1 pc = .ok (.ifCond .ge off, 3)) (ht : (pc : Int) + off = (tgt : Int)) (kt : 0 ≤ x → fm_W S ω Γ M P σ tgt L st) (kf : ¬ (0 ≤ x) → fm_W S ω Γ M P σ (pc + 3) L st) : fm_W S ω Γ M P σ pc L (fm_I x :: st) := by
  intro C hL H locs ls hP hS hl
  obtain ⟨hx, hb, -⟩ := id C
  exact lv_if_ge hx hb hd ht (fun q => kt ((fm_le ⟨by decide, by decide⟩ rx).mp q) C hL H locs ls hP hS hl) (fun q => kf (fun r => q ((fm_le ⟨by decide, by decide⟩ rx).mpr r)) C hL H locs ls hP hS hl)
theorem fm_if_gt {x : Int} (rx : fm_R x) {off : Int} (tgt : Nat) (hd : decode M.1 pc = .ok (.ifCond .gt off, 3)) (ht : (pc : Int) + off = (tgt : Int)) (kt : 0 < x → fm_W S ω Γ M P σ tgt L st) (kf : ¬ (0 < x) → fm_W S ω Γ M P σ (pc + 3) L st) : fm_W S ω Γ M P σ pc L (fm_I x :: st) := by
  intro C hL H locs ls hP hS hl
  obtain ⟨hx, hb, -⟩ := id C
  exact lv_if_gt hx hb hd ht (fun q => kt ((fm_lt ⟨by decide, by decide⟩ rx).mp q) C hL H locs ls hP hS hl) (fun q => kf (fun r => q ((fm_lt ⟨by decide, by decide⟩ rx).mpr r)) C hL H locs ls hP hS hl)
theorem fm_if_le {x : Int} (rx : fm_R x) {off : Int} (tgt : Nat) (hd : decode M.1 pc = .ok (.ifCond .le off, 3)) (ht : (pc : Int) + off = (tgt : Int)) (kt : x ≤ 0 → fm_W S ω Γ M P σ tgt L st) (kf : ¬ (x ≤ 0) → fm_W S ω Γ M P σ (pc + 3) L st) : fm_W S ω Γ M P σ pc L (fm_I x :: st) := by
  intro C hL H locs ls hP hS hl
  obtain ⟨hx, hb, -⟩ := id C
  exact lv_if_le hx hb hd ht (fun q => kt ((fm_le rx ⟨by decide, by decide⟩).mp q) C hL H locs ls hP hS hl) (fun q => kf (fun r => q ((fm_le rx ⟨by decide, by decide⟩).mpr r)) C hL H locs ls hP hS hl)
theorem fm_goto {off : Int} (tgt : Nat) (hd : decode M.1 pc = .ok (.goto off, 3)) (ht : (pc : Int) + off = (tgt : Int)) (k : fm_W S ω Γ M P σ tgt L st) : fm_W S ω Γ M P σ pc L st := by
  intro C hL H locs ls hP hS hl
  obtain ⟨hx, hb, -⟩ := id C
  exact lv_goto hx hb hd ht (k C hL H locs ls hP hS hl)
theorem fm_tabOut {dflt lo hi : Int} {offs : Array Int} {len : Nat} {x : Int} (rx : fm_R x) (tgt : Nat) (hd : decode M.1 pc = .ok (.tableswitch dflt lo hi offs, len)) (h : x < lo ∨ hi < x) (ht : (pc : Int) + dflt = (tgt : Int)) (k : fm_W S ω Γ M P σ tgt L st) : fm_W S ω Γ M P σ pc L (fm_I x :: st) := by
  intro C hL H locs ls hP hS hl
  obtain ⟨hx, hb, -⟩ := id C
  exact lv_tableOut hx hb hd (by rw [fm_ofI rx.1 rx.2]; exact h) ht (k C hL H locs ls hP hS hl)
theorem fm_tabIn {dflt lo hi : Int} {offs : Array Int} {len : Nat} {off x : Int} (tgt : Nat) (hd : decode M.1 pc = .ok (.tableswitch dflt lo hi offs, len)) (rx : fm_R x) (h1 : ¬ x < lo) (h2 : ¬ hi < x) (ho : offs[(x - lo).toNat]? = some off) (ht : (pc : Int) + off = (tgt : Int)) (k : fm_W S ω Γ M P σ tgt L st) : fm_W S ω Γ M P σ pc L (fm_I x :: st) := by
  intro C hL H locs ls hP hS hl
  obtain ⟨hx, hb, -⟩ := id C
  exact lv_tableIn hx hb hd (by rw [fm_ofI rx.1 rx.2]; exact h1) (by rw [fm_ofI rx.1 rx.2]; exact h2) (by rw [fm_ofI rx.1 rx.2]; exact ho) ht (k C hL H locs ls hP hS hl)

end FM
end
section
/-! fm_: heap rows, returns, start, calls -/
section FMB
variable {S : fm_Sh} {ω : fm_O} {Γ : fm_G} {M : fm_M} {P : Option Value → fm_Mem → Prop} {σ : fm_Mem} {pc : Nat} {L : List (Option Value)} {st : List Value}
theorem fm_obv {k ci j : Nat} {ad : Nat → Nat} (hj : j < S.2.2.2.1 ci) : ((List.range (S.2.2.2.1 ci)).map (fun j => if S.2.2.2.2 ci j then Value.ref (ad (S.2.2.1 k j)) else Value.int (Int32.ofInt (σ k j))))[j]? = some (if S.2.2.2.2 ci j then Value.ref (ad (S.2.2.1 k j)) else Value.int (Int32.ofInt (σ k j))) := by
  rw [List.getElem?_map, List.getElem?_range hj]
  rfl
theorem fm_getI {idx k ci j : Nat} (hd : decode M.1 pc = .ok (.getfield idx, 3)) (hF : fm_Fd M.2.1 ci j idx) (ho : fm_ob S k ci) (hj : j < S.2.2.2.1 ci) (hi : S.2.2.2.2 ci j = false) (kk : fm_W S ω Γ M P σ (pc + 3) L (fm_I (σ k j) :: st)) : fm_W S ω Γ M P σ pc L (fm_r ω k :: st) := by
  intro C hL H locs ls hP hS hl
  obtain ⟨hx, hb, hml, hown, hts, hr, hlk, hK, hD⟩ := id C
  obtain ⟨Cn, T, N, ty, h1, h2, h3, h4, h5, h6⟩ := hF
  have he := fm_ws_at (S := S) (ct := ω.2.2.1) (ad := ω.2.2.2) (σ := σ) ho.1
  rw [fm_e_ob ho] at he
  refine va_get hx hb hts h3 hown hK hP k he h1 j h2 (hts _ h4) (fun _ h9 => h9) (v := fm_I (σ k j)) ?_ hd (kk C hL H locs ls hP hS hl)
  rw [fm_obv hj, hi]
  rfl
theorem fm_getR {idx k ci j : Nat} (k2 : Nat) (hd : decode M.1 pc = .ok (.getfield idx, 3)) (hF : fm_Fd M.2.1 ci j idx) (ho : fm_ob S k ci) (hj : j < S.2.2.2.1 ci) (hi : S.2.2.2.2 ci j = true) (hk : S.2.2.1 k j = k2) (kk : fm_W S ω Γ M P σ (pc + 3) L (fm_r ω k2 :: st)) : fm_W S ω Γ M P σ pc L (fm_r ω k :: st) := by
  intro C hL H locs ls hP hS hl
  obtain ⟨hx, hb, hml, hown, hts, hr, hlk, hK, hD⟩ := id C
  obtain ⟨Cn, T, N, ty, h1, h2, h3, h4, h5, h6⟩ := hF
  have he := fm_ws_at (S := S) (ct := ω.2.2.1) (ad := ω.2.2.2) (σ := σ) ho.1
  rw [fm_e_ob ho] at he
  refine va_get hx hb hts h3 hown hK hP k he h1 j h2 (hts _ h4) (fun _ h9 => h9) (v := fm_r ω k2) ?_ hd (kk C hL H locs ls hP hS hl)
  rw [fm_obv hj, hi, hk]
  rfl
theorem fm_put {idx k ci j : Nat} {z : Int} (hd : decode M.1 pc = .ok (.putfield idx, 3)) (hF : fm_Fd M.2.1 ci j idx) (hw : fm_Wr ci j) (ho : fm_ob S k ci) (hj : j < S.2.2.2.1 ci) (hi : S.2.2.2.2 ci j = false) (kk : fm_W S ω Γ M P (fm_up σ k j z) (pc + 3) L st) : fm_W S ω Γ M P σ pc L (fm_I z :: fm_r ω k :: st) := by
  intro C hL H locs ls hP hS hl
  obtain ⟨hx, hb, hml, hown, hts, hr, hlk, hK, hD⟩ := id C
  obtain ⟨Cn, T, N, ty, h1, h2, h3, h4, h5, h6⟩ := hF
  obtain ⟨C2, T2, N2, g1, g2, g3⟩ := hw
  have e9 : (Cn, T, N) = (C2, T2, N2) := Option.some.inj (h1.symm.trans g1)
  cases e9
  have he := fm_ws_at (S := S) (ct := ω.2.2.1) (ad := ω.2.2.2) (σ := σ) ho.1
  rw [fm_e_ob ho] at he
  refine va_put (v := fm_I z) (ty := .int) hx hb hts h3 ty h5 h6 hown hK hP (fm_D hD (fun k hk => ⟨k, hk, rfl⟩)) hS k he h1 j h2 (hts _ h4) (fun _ h9 => h9) g2 g3 rfl rfl (by rw [List.length_map, List.length_range]; exact hj) hd (fun H1 locs1 hP1 hD1 hS1 => ?_)
  refine kk C hL H1 locs1 ls ?_ hS1 hl
  rw [fm_ws_set (σ' := fm_up σ k j z) ho.1 ?_ (fun i hi => fm_e_up_ne hi)] at hP1
  · exact hP1
  · rw [fm_e_ob ho]
    congr 2
    apply List.ext_getElem?
    intro i
    by_cases hij : i = j
    · subst hij
      rw [List.getElem?_set_self (by rw [List.length_map, List.length_range]; exact hj), fm_obv hj, hi]
      simp [fm_up, fm_I]
    · rw [List.getElem?_set_ne (fun q => hij q.symm)]
      by_cases hil : i < S.2.2.2.1 ci
      · rw [fm_obv hil, fm_obv hil]
        have : fm_up σ k j z k i = σ k i := by simp [fm_up, hij]
        rw [this]
      · rw [List.getElem?_eq_none (by rw [List.length_map, List.length_range]; omega), List.getElem?_eq_none (by rw [List.length_map, List.length_range]; omega)]
theorem fm_iald {k n : Nat} {i : Int} (hd : decode M.1 pc = .ok (.iaload, 1)) (ha : fm_ia S k n) (h0 : 0 ≤ i) (h1 : i < (n : Int)) (kk : fm_W S ω Γ M P σ (pc + 1) L (fm_I (σ k i.toNat) :: st)) : fm_W S ω Γ M P σ pc L (fm_I i :: fm_r ω k :: st) := by
  intro C hL H locs ls hP hS hl
  obtain ⟨hx, hb, hml, hown, hts, hr, hlk, hK, hD⟩ := id C
  have he := fm_ws_at (S := S) (ct := ω.2.2.1) (ad := ω.2.2.2) (σ := σ) ha.1
  rw [fm_e_ia ha] at he
  have hn := ha.2.2
  have k2 := kk C hL H locs ls hP hS hl
  refine va_iald hx hb hK hP k 0 he rfl (fm_vin ha.2.2 h0 h1) hd ?_
  rw [fm_clamp h0 (by omega)]
  exact k2
theorem fm_iast {k n : Nat} {i z : Int} (hd : decode M.1 pc = .ok (.iastore, 1)) (ha : fm_ia S k n) (h0 : 0 ≤ i) (h1 : i < (n : Int)) (kk : fm_W S ω Γ M P (fm_up σ k i.toNat z) (pc + 1) L st) : fm_W S ω Γ M P σ pc L (fm_I z :: fm_I i :: fm_r ω k :: st) := by
  intro C hL H locs ls hP hS hl
  obtain ⟨hx, hb, hml, hown, hts, hr, hlk, hK, hD⟩ := id C
  have he := fm_ws_at (S := S) (ct := ω.2.2.1) (ad := ω.2.2.2) (σ := σ) ha.1
  rw [fm_e_ia ha] at he
  have hn := ha.2.2
  refine va_iast hx hb hK hP (fm_D hD (fun k hk => ⟨k, hk, rfl⟩)) hS k 0 he rfl (fm_vin ha.2.2 h0 h1) hd (fun H1 locs1 hP1 hD1 hS1 => ?_)
  refine kk C hL H1 locs1 ls ?_ hS1 hl
  rw [fm_clamp h0 (by omega)] at hP1
  rw [fm_ws_set (σ' := fm_up σ k i.toNat z) ha.1 ?_ (fun i hi => fm_e_up_ne hi)] at hP1
  · exact hP1
  · rw [fm_e_ia ha]
    congr 4
    funext j
    by_cases hij : j = i.toNat
    · simp [upd, fm_up, hij]
    · simp [upd, fm_up, hij]
theorem fm_aald {k t n : Nat} {i : Int} (k2 : Nat) (hd : decode M.1 pc = .ok (.aaload, 1)) (ha : fm_ra S k t n) (h0 : 0 ≤ i) (h1 : i < (n : Int)) (hk : S.2.2.1 k i.toNat = k2) (kk : fm_W S ω Γ M P σ (pc + 1) L (fm_r ω k2 :: st)) : fm_W S ω Γ M P σ pc L (fm_I i :: fm_r ω k :: st) := by
  intro C hL H locs ls hP hS hl
  obtain ⟨hx, hb, hml, hown, hts, hr, hlk, hK, hD⟩ := id C
  have he := fm_ws_at (S := S) (ct := ω.2.2.1) (ad := ω.2.2.2) (σ := σ) ha.1
  rw [fm_e_ra ha] at he
  have hn := ha.2.2.1
  have hin := fm_vin ha.2.2.1 h0 h1
  have hcl := fm_clamp h0 (show i < 2147483648 by omega)
  have hlt : (Int32.ofInt i).toNatClampNeg < n := by rw [hcl]; omega
  have hty : ∃ ty : FieldType, ArrOfT Γ.2.2.1 (ω.2.2.1 t) ty ∧ ty.isReference = true := by
    rcases ha.2.2.2 with e | e
    · subst e; exact ⟨_, (hK.2 1 (ω.2.2.1 1, .object RX3) rfl).1, rfl⟩
    · subst e; exact ⟨_, (hK.2 2 (ω.2.2.1 2, .array .int) rfl).1, rfl⟩
  obtain ⟨ty, hA, hre⟩ := hty
  have k3 := kk C hL H locs ls hP hS hl
  refine W.aald (v := fm_r ω k2) (ty := ty) hx hb (hP k _ he) (hA n (fun j => va_rf (some (ω.2.2.2 (S.2.2.1 k j))))) hre (fun q => by cases q) (by show ¬ (_ < 0 ∨ (arrV _ _ _).slots.size ≤ _); rw [arrV_size]; exact hin) (by show (arrV _ _ _).slots[_]? = _; rw [arrV_read _ _ hlt, hcl]; show some (Value.ref (ω.2.2.2 (S.2.2.1 k i.toNat))) = _; rw [hk]; rfl) rfl rfl hd k3
theorem fm_iret {z : Int} (hd : decode M.1 pc = .ok (.ireturn, 1)) (hr : M.2.2.2.2 = some .int) (h : P (some (fm_I z)) σ) : fm_W S ω Γ M P σ pc L [fm_I z] := by
  intro C hL H locs ls hP hS hl
  obtain ⟨hx, hb, hml, hown, hts, hrt, hlk, hK, hD⟩ := id C
  exact W.iret hx hb (hrt.trans hr) (fun t ht hW => ⟨some (fm_I z), σ, rfl, h, by rw [ht]; exact hP, hS.F ht⟩) hS.2.2 hd hlk
theorem fm_zret {z : Int} (hd : decode M.1 pc = .ok (.ireturn, 1)) (hr : M.2.2.2.2 = some .boolean) (hz : z = 0 ∨ z = 1) (h : P (some (fm_I z)) σ) : fm_W S ω Γ M P σ pc L [fm_I z] := by
  intro C hL H locs ls hP hS hl
  obtain ⟨hx, hb, hml, hown, hts, hrt, hlk, hK, hD⟩ := id C
  exact W.zret hx hb (hrt.trans hr) (by rcases hz with rfl | rfl <;> rfl) (fun t ht hW => ⟨some (fm_I z), σ, rfl, h, by rw [ht]; exact hP, hS.F ht⟩) hS.2.2 hd hlk
theorem fm_vret (hd : decode M.1 pc = .ok (.return_, 1)) (hr : M.2.2.2.2 = none) (h : P none σ) : fm_W S ω Γ M P σ pc L [] := by
  intro C hL H locs ls hP hS hl
  obtain ⟨hx, hb, hml, hown, hts, hrt, hlk, hK, hD⟩ := id C
  exact W.vret hx hb (hrt.trans hr) (fun t ht hW => ⟨none, σ, rfl, h, by rw [ht]; exact hP, hS.F ht⟩) hS.2.2 hd hlk
theorem fm_aret {k0 : Nat} {rt : FieldType} (hd : decode M.1 pc = .ok (.areturn, 1)) (hr : M.2.2.2.2 = some (.array rt)) (h : P (some (fm_r ω k0)) σ) : fm_W S ω Γ M P σ pc L [fm_r ω k0] := by
  intro C hL H locs ls hP hS hl
  obtain ⟨hx, hb, hml, hown, hts, hrt, hlk, hK, hD⟩ := id C
  exact W.aret hx hb (hrt.trans hr) (Or.inr ⟨rt, rfl⟩) (Or.inr ⟨_, rfl⟩) (fun t ht hW => ⟨some (fm_r ω k0), σ, rfl, h, by rw [ht]; exact hP, hS.F ht⟩) hS.2.2 hd hlk
theorem fm_in_len : ∀ (av : List Value) (n : Nat), (fm_in av n).length = n
  | _, 0 => by unfold fm_in; rfl
  | [], n + 1 => by unfold fm_in; simp [fm_in_len [] n]
  | v :: vs, n + 1 => by
    unfold fm_in
    split
    · cases n with
      | zero => rfl
      | succ k => simp [fm_in_len vs k]
    · simp [fm_in_len vs n]
theorem fm_in_at : ∀ (av : List Value) (n b : Nat) (i : Nat) (v : Value), (fm_in av n)[i]? = some (some v) → (b + i, v) ∈ lv_args b av
  | _, 0, _, i, v, h => by unfold fm_in at h; simp at h
  | [], n + 1, b, i, v, h => by
    unfold fm_in at h
    cases i with
    | zero => simp at h
    | succ j =>
      simp at h
      have := fm_in_at [] n 0 j v h
      simp [lv_args] at this
  | a :: vs, n + 1, b, i, v, h => by
    unfold fm_in at h
    unfold lv_args
    by_cases hc : a.category = 2
    · rw [if_pos hc] at h
      rw [if_pos hc]
      cases n with
      | zero =>
        cases i with
        | zero => simp at h; subst h; simp
        | succ j => simp at h
      | succ k =>
        cases i with
        | zero => simp at h; subst h; simp
        | succ j =>
          cases j with
          | zero => simp at h
          | succ j2 =>
            simp at h
            have := fm_in_at vs k (b + 2) j2 v h
            refine List.mem_cons_of_mem _ ?_
            rw [show b + (j2 + 1 + 1) = b + 2 + j2 by omega]
            exact this
    · rw [if_neg hc] at h
      rw [if_neg hc]
      cases i with
      | zero => simp at h; subst h; simp
      | succ j =>
        simp at h
        have := fm_in_at vs n (b + 1) j v h
        refine List.mem_cons_of_mem _ ?_
        rw [show b + (j + 1) = b + 1 + j by omega]
        exact this
theorem fm_start {y : MethodName} {cc : ByteArray} {own : String} {rm : Room} {n : Nat} {ret : Option FieldType} {av : List Value} (hy : plainName y.cls = true) (hown : y.cls = own) (hlen : (lg_sl av).length ≤ n) (L0 : List (Option Value)) (hL0 : fm_in av n = L0)
    (k : ∀ Γ : fm_G, fm_W S ω Γ (cc, own, rm, n, ret) P σ 0 L0 []) : fm_Met S ω y cc n ret rm av σ P := by
  refine Met.ofW (cc := cc) (maxL := n) (ret := ret) hy rfl ?_
  intro p e s m args below meth c s₁ B hml hv
  obtain ⟨rfl, hP, hK, hD⟩ := hv
  have hts := atoms_spec (ws := Cond.code y cc n ret :: fm_T) B.pre
  have hown2 : s.vm.findClass own = some m.cls := by rw [← hown]; exact findClass_of_methodNamed B.named
  have hl := lv_entry av (n := n) hlen
  rw [lg_entry_eq]
  refine k (p, e, s, m, av.toArray, below, meth, c) ⟨B.exec, B.bytes, hml, hown2, fun w hw => hts w (List.mem_cons_of_mem _ hw), B.returns, B.notSynchronized, hK, fm_D hD (fun k hk => ⟨k, hk, rfl⟩)⟩ (by rw [← hL0, fm_in_len]) s.heap [] _ hP va_S.rf ⟨by rw [← hL0, fm_in_len]; exact hl.1, hl.2.1, fun i v hv => ?_⟩
  subst hL0
  have := fm_in_at av n 0 i v hv
  rw [Nat.zero_add] at this
  exact hl.2.2 _ this
theorem fm_blind {av : List Value} : FrameBlind (va_Pc av (fun U => va_P ω.2.1 vwCl (fm_ws S ω.2.2.1 ω.2.2.2 σ) U.heap ∧ va_K ω.2.1 vwCl (fm_tys ω.2.2.1) U ∧ va_D (fun _ => True) (fm_ws S ω.2.2.1 ω.2.2.2 (fun _ _ => 0)))) := fun a U g mk q => by
  obtain ⟨q0, qP, qK, qD⟩ := q
  exact ⟨q0, qP, va_K.moved (u := U) (U := U.calling g mk a) (Vm.Alike.refl U.vm) qK, qD⟩
/-- what comes behind a call -/
theorem fm_after {P2 : Option Value → fm_Mem → Prop} {a : Array Value} {rest st0 : List Value} (C : fm_C S ω Γ M) (hL : L.length = M.2.2.2.1) {H : Heap} {locs : List Loc} {ls : Array Slot} (hS : va_S (fm_A S ω.2.2.2) Γ.2.2.1.heap H locs) (hl : fm_L ls L)
    (hr : va_Run Γ.1 ω.1 Γ.2.1 M.2.2.1 Γ.2.2.1 Γ.2.2.2.1 Γ.2.2.2.2.1 Γ.2.2.2.2.2.1 Γ.2.2.2.2.2.2.1 Γ.2.2.2.2.2.2.2 H locs 0 0 0 0 (F0 Γ.2.2.2.1 pc ls st0) rest (fm_Qc S ω P2 a) (fm_A S ω.2.2.2))
    (kk : ∀ (v : Option Value) (σ' : fm_Mem), P2 v σ' → fm_W S ω Γ M P σ' (pc + 3) L (v.toList ++ rest)) : W Γ.1 ω.1 Γ.2.1 M.2.2.1 Γ.2.2.1 Γ.2.2.2.1 Γ.2.2.2.2.1 Γ.2.2.2.2.2.1 Γ.2.2.2.2.2.2.1 Γ.2.2.2.2.2.2.2 H locs 0 0 (MQ Γ.2.2.2.2.2.1 (fm_Qc S ω P) Γ.2.2.2.2.1 Γ.2.2.1 0 0 (fm_A S ω.2.2.2)) (F0 Γ.2.2.2.1 pc ls st0) := by
  intro T hT X
  obtain ⟨v, st₀, t, T', L2, h0, X', hL2, e1, e2, ⟨v', σ', hv, hp, hPP, hz, hk⟩, stp⟩ := hr T hT X
  cases hv
  rw [h0] at hz hk
  have hS' : va_S (fm_A S ω.2.2.2) Γ.2.2.1.heap T'.heap (locs ++ L2) := ⟨Nat.le_trans hS.1 (by rw [e1]; exact hz), fun q h1 h2 => by rw [e1, hk q (Nat.lt_of_lt_of_le h1 hS.1) h2]; exact hS.2.1 q h1 h2, fun q hq => by
      rcases List.mem_append.mp hq with h | h
      · exact hS.2.2 q h
      · exact hL2 q h⟩
  obtain ⟨t2, a1, b1⟩ := kk v σ' hp C hL T'.heap (locs ++ L2) ls (by rw [e1]; exact hPP) hS' hl T' rfl X'
  exact ⟨t2, stp t2 a1, b1⟩
theorem fm_callV {P2 : Option Value → fm_Mem → Prop} {y : MethodName} {rm : Room} {b ci idx maxL n : Nat} {bytes : ByteArray} {ret : Option FieldType} {As rest : List Value} (hd : decode M.1 pc = .ok (.invokevirtual idx, 3)) (hc : fm_CV M.2.1 idx ci y bytes maxL ret n) (hM : fm_Met S ω y bytes maxL ret rm (fm_r ω b :: As) σ P2) (ho : fm_ob S b ci) (hrc : rm.cells = 0) (hrs : rm.slots = 0)
    (hR : rm.frames + 1 ≤ M.2.2.1.frames ∧ 8 + (maxL + 11) + rm.locals ≤ M.2.2.1.locals) (hn : As.length = n) (hst : st = As.reverse ++ fm_r ω b :: rest) (hW : (rest.map fun v => v.category).sum ≤ 8)
    (kk : ∀ (v : Option Value) (σ' : fm_Mem), P2 v σ' → fm_W S ω Γ M P σ' (pc + 3) L (v.toList ++ rest)) : fm_W S ω Γ M P σ pc L st := by
  intro C hL H locs ls hP hS hl
  subst hst
  obtain ⟨hx, hb, hml, hown, hts, hrt, hlk, hK, hD⟩ := id C
  obtain ⟨⟨c1, c2, c3, c4, c5⟩, ⟨T, N, c6⟩, c7⟩ := hc
  have he := fm_ws_at (S := S) (ct := ω.2.2.1) (ad := ω.2.2.2) (σ := σ) ho.1
  rw [fm_e_ob ho] at he
  have hG : GoodIn fm_T (wsV M.2.1 idx y.cls y (Cond.code y bytes maxL ret :: fm_T)) := fun w hw => fm_good w (by
    unfold wsV at hw
    simp only [List.cons_append, List.nil_append, List.mem_cons] at hw
    rcases hw with rfl | rfl | rfl | rfl | rfl | hw
    · exact c1
    · exact c2
    · exact c3
    · exact c4
    · exact c5
    · exact hw)
  refine fm_after C hL hS hl (va_runV (As := As) (rest := rest) (b := ω.2.2.2 b) ⟨hx, hb, hml, hown, hts⟩ hM (cwV n hts hG rfl hrc hrs ⟨rfl, c7⟩ hR) ⟨fm_blind, va_recv hK hP c6 he, fun U hU hW => ⟨rfl, by rw [hU]; exact hP, va_K.moved hW.alike hK, fm_D hD (fun _ _ => trivial)⟩⟩ rfl hn (hl.1.trans hL) rfl (lv_room hW) hd ⟨Nat.zero_le _, Nat.zero_le _⟩) kk
theorem fm_callS {P2 : Option Value → fm_Mem → Prop} {y : MethodName} {rm : Room} {idx maxL n : Nat} {bytes : ByteArray} {ret : Option FieldType} {As rest : List Value} (hd : decode M.1 pc = .ok (.invokestatic idx, 3)) (hc : fm_CS M.2.1 idx y bytes maxL ret n) (hM : fm_Met S ω y bytes maxL ret rm As σ P2) (hrc : rm.cells = 0) (hrs : rm.slots = 0)
    (hR : rm.frames + 1 ≤ M.2.2.1.frames ∧ 8 + (maxL + 11) + rm.locals ≤ M.2.2.1.locals) (hn : As.length = n) (hst : st = As.reverse ++ rest) (hW : (rest.map fun v => v.category).sum ≤ 8)
    (kk : ∀ (v : Option Value) (σ' : fm_Mem), P2 v σ' → fm_W S ω Γ M P σ' (pc + 3) L (v.toList ++ rest)) : fm_W S ω Γ M P σ pc L st := by
  intro C hL H locs ls hP hS hl
  subst hst
  obtain ⟨hx, hb, hml, hown, hts, hrt, hlk, hK, hD⟩ := id C
  obtain ⟨⟨c1, c2, c4, c5⟩, c7⟩ := hc
  have hG : GoodIn fm_T (va_wsS M.2.1 idx y (Cond.code y bytes maxL ret :: fm_T)) := fun w hw => fm_good w (by
    unfold va_wsS at hw
    simp only [List.cons_append, List.nil_append, List.mem_cons] at hw
    rcases hw with rfl | rfl | rfl | rfl | hw
    · exact c1
    · exact c2
    · exact c4
    · exact c5
    · exact hw)
  refine fm_after C hL hS hl (va_runS (As := As) (rest := rest) ⟨hx, hb, hml, hown, hts⟩ hM (va_cwS n hts hG rfl hrc hrs c7 hR) ⟨fm_blind, fun U hU hW => ⟨rfl, by rw [hU]; exact hP, va_K.moved hW.alike hK, fm_D hD (fun _ _ => trivial)⟩⟩ rfl hn (hl.1.trans hL) rfl (lv_room hW) hd ⟨Nat.zero_le _, Nat.zero_le _⟩) kk
theorem fm_min {idx n : Nat} {x y : Int} (hd : decode M.1 pc = .ok (.invokestatic idx, 3)) (hc : fm_CS M.2.1 idx Lib.Math.min.name Lib.Math.min.code 2 (some .int) n) (hf : 1 ≤ M.2.2.1.frames) (hR : (st.map fun v => v.category).sum + 13 ≤ M.2.2.1.locals) (rx : fm_R x) (ry : fm_R y) (k : fm_W S ω Γ M P σ (pc + 3) L (fm_I (min x y) :: st)) : fm_W S ω Γ M P σ pc L (fm_I y :: fm_I x :: st) := by
  intro C hL H locs ls hP hS hl
  obtain ⟨hx, hb, hml, hown, hts, hrt, hlk, hK, hD⟩ := id C
  obtain ⟨⟨c1, c2, c4, c5⟩, c7⟩ := hc
  have k2 := k C hL H locs ls hP hS hl
  refine va_mmin hx hb (hml.trans (hL.symm.trans hl.1.symm)) hown (hts _ c1) (hts _ c2) (hts _ c4) (hts _ c5) hf hR (Nat.zero_le _) (Nat.zero_le _) hd ?_
  refine W.eq ?_ k2
  congr 2
  show Value.int _ = Value.int _
  congr 1
  split
  · rename_i h
    have := (fm_lt ry rx).mp h
    congr 1
    omega
  · rename_i h
    have : ¬ y < x := fun q => h ((fm_lt ry rx).mpr q)
    congr 1
    omega
theorem fm_max {idx n : Nat} {x y : Int} (hd : decode M.1 pc = .ok (.invokestatic idx, 3)) (hc : fm_CS M.2.1 idx Lib.Math.max.name Lib.Math.max.code 2 (some .int) n) (hf : 1 ≤ M.2.2.1.frames) (hR : (st.map fun v => v.category).sum + 13 ≤ M.2.2.1.locals) (rx : fm_R x) (ry : fm_R y) (k : fm_W S ω Γ M P σ (pc + 3) L (fm_I (max x y) :: st)) : fm_W S ω Γ M P σ pc L (fm_I y :: fm_I x :: st) := by
  intro C hL H locs ls hP hS hl
  obtain ⟨hx, hb, hml, hown, hts, hrt, hlk, hK, hD⟩ := id C
  obtain ⟨⟨c1, c2, c4, c5⟩, c7⟩ := hc
  have k2 := k C hL H locs ls hP hS hl
  refine va_mmax hx hb (hml.trans (hL.symm.trans hl.1.symm)) hown (hts _ c1) (hts _ c2) (hts _ c4) (hts _ c5) hf hR (Nat.zero_le _) (Nat.zero_le _) hd ?_
  refine W.eq ?_ k2
  congr 2
  show Value.int _ = Value.int _
  congr 1
  split
  · rename_i h
    have := (fm_lt rx ry).mp h
    congr 1
    omega
  · rename_i h
    have : ¬ x < y := fun q => h ((fm_lt rx ry).mpr q)
    congr 1
    omega
theorem fm_abs {idx n : Nat} {x : Int} (hd : decode M.1 pc = .ok (.invokestatic idx, 3)) (hc : fm_CS M.2.1 idx Lib.Math.abs.name Lib.Math.abs.code 1 (some .int) n) (hf : 1 ≤ M.2.2.1.frames) (hR : (st.map fun v => v.category).sum + 13 ≤ M.2.2.1.locals) (rx : fm_R x) (k : fm_W S ω Γ M P σ (pc + 3) L (fm_I (if x < 0 then -x else x) :: st)) : fm_W S ω Γ M P σ pc L (fm_I x :: st) := by
  intro C hL H locs ls hP hS hl
  obtain ⟨hx, hb, hml, hown, hts, hrt, hlk, hK, hD⟩ := id C
  obtain ⟨⟨c1, c2, c4, c5⟩, c7⟩ := hc
  have k2 := k C hL H locs ls hP hS hl
  refine va_mabs hx hb (hml.trans (hL.symm.trans hl.1.symm)) hown (hts _ c1) (hts _ c2) (hts _ c4) (hts _ c5) hf hR (Nat.zero_le _) (Nat.zero_le _) hd ?_
  refine W.eq ?_ k2
  congr 2
  show Value.int _ = Value.int _
  congr 1
  have e : (0 ≤ Int32.ofInt x) ↔ 0 ≤ x := by rw [fm_z0]; exact fm_le ⟨by decide, by decide⟩ rx
  by_cases h : x < 0
  · rw [if_pos h, if_neg (fun q => by have := e.mp q; omega), Int32.ofInt_neg, Int32.zero_sub]
  · rw [if_neg h, if_pos (e.mpr (by omega))]
end FMB
end
section
/-! the shapes: kc, the cells of a FilmWhole; km, the cells of a FilmWholeModel -/
def kc_sh (k : Nat) : Nat ⊕ (Nat × Nat) ⊕ Nat :=
  if k < 27 then (match k with
    | 0 => .inr (.inr 7) | 1 => .inr (.inl (1, 6)) | 2 => .inr (.inr 4) | 3 => .inl 40 | 4 => .inl 40 | 5 => .inl 4 | 6 => .inr (.inr 1) | 7 => .inr (.inl (2, 41)) | 8 => .inl 40 | 9 => .inr (.inr 5)
    | 10 => .inr (.inl (2, 6)) | 11 => .inr (.inl (2, 40)) | 12 => .inl 40 | 13 => .inr (.inr 2) | 14 => .inl 12 | 15 => .inl 12 | 16 => .inl 12 | 17 => .inl 12 | 18 => .inr (.inr 0) | 19 => .inr (.inl (2, 6))
    | 20 => .inl 64 | 21 => .inl 64 | 22 => .inl 6 | 23 => .inr (.inr 6) | _ => .inl 30)
  else if k < 33 then .inr (.inr 3) else if k < 51 then .inl 40 else if k < 57 then .inl 6 else if k < 63 then .inl 40 else if k < 104 then .inl 41 else .inl 7
def kc_kid (k j : Nat) : Nat := match k with
  | 0 => (match j with | 0 => 1 | 2 => 2 | 3 => 5 | 4 => 6 | 5 => 9 | 6 => 13 | 7 => 18 | _ => 23)
  | 1 => 27 + j
  | 2 => 3 + j
  | 6 => 7 + j
  | 7 => 63 + j
  | 9 => (match j with | 0 => 2 | 1 => 1 | 2 => 5 | 3 => 6 | 4 => 10 | 5 => 11 | _ => 12)
  | 10 => 57 + j
  | 11 => 104 + j
  | 13 => 14 + j
  | 18 => 19 + j
  | 19 => 51 + j
  | 23 => 24 + j
  | k => k + 6 + 6 * j
def ks_nf (c : Nat) : Nat := match c with | 0 => 5 | 1 => 2 | 2 => 5 | 3 => 4 | 4 => 3 | 5 => 8 | 6 => 4 | 7 => 9 | _ => 25
def ks_isr (c j : Nat) : Bool := match c with | 0 => decide (j < 4) | 1 => true | 2 => decide (j < 4) | 3 => decide (j < 3) | 4 => decide (j < 2) | 5 => decide (j < 7) | 6 => decide (j < 3) | 7 => decide (j ≠ 1) | _ => decide (j ≠ 0 ∧ j ≠ 7 ∧ j ≠ 12 ∧ j ≠ 16)
def kc : fm_Sh := (144, kc_sh, kc_kid, ks_nf, ks_isr)
def km_sh (k : Nat) : Nat ⊕ (Nat × Nat) ⊕ Nat := match k with
  | 0 => .inr (.inr 8) | 1 => .inl 7 | 2 => .inl 280 | 3 => .inl 240 | 4 => .inl 240 | 5 => .inl 40 | 6 => .inl 4 | 7 => .inl 12 | 8 => .inl 12 | 9 => .inl 12 | 10 => .inl 12 | 11 => .inl 20 | 12 => .inl 20 | 13 => .inl 20 | 14 => .inl 30 | 15 => .inl 30
  | 16 => .inl 1681 | 17 => .inl 40 | 18 => .inl 240 | 19 => .inl 280 | 20 => .inl 40 | _ => .inl 6
def km_kid (_ j : Nat) : Nat := if j < 7 then j else if j < 12 then j - 1 else if j < 16 then j - 2 else j - 3
def km : fm_Sh := (22, km_sh, km_kid, ks_nf, ks_isr)
theorem ia_3 : fm_ia kc 3 40 := by unfold fm_ia; decide +kernel
theorem ia_4 : fm_ia kc 4 40 := by unfold fm_ia; decide +kernel
theorem ia_5 : fm_ia kc 5 4 := by unfold fm_ia; decide +kernel
theorem ia_8 : fm_ia kc 8 40 := by unfold fm_ia; decide +kernel
theorem ia_12 : fm_ia kc 12 40 := by unfold fm_ia; decide +kernel
theorem ia_14 : fm_ia kc 14 12 := by unfold fm_ia; decide +kernel
theorem ia_15 : fm_ia kc 15 12 := by unfold fm_ia; decide +kernel
theorem ia_16 : fm_ia kc 16 12 := by unfold fm_ia; decide +kernel
theorem ia_17 : fm_ia kc 17 12 := by unfold fm_ia; decide +kernel
theorem ia_20 : fm_ia kc 20 64 := by unfold fm_ia; decide +kernel
theorem ia_21 : fm_ia kc 21 64 := by unfold fm_ia; decide +kernel
theorem ia_22 : fm_ia kc 22 6 := by unfold fm_ia; decide +kernel
theorem ia_24 : fm_ia kc 24 30 := by unfold fm_ia; decide +kernel
theorem ia_25 : fm_ia kc 25 30 := by unfold fm_ia; decide +kernel
theorem ia_26 : fm_ia kc 26 30 := by unfold fm_ia; decide +kernel
theorem ob_0 : fm_ob kc 0 7 := by unfold fm_ob; decide +kernel
theorem ob_2 : fm_ob kc 2 4 := by unfold fm_ob; decide +kernel
theorem ob_6 : fm_ob kc 6 1 := by unfold fm_ob; decide +kernel
theorem ob_9 : fm_ob kc 9 5 := by unfold fm_ob; decide +kernel
theorem ob_13 : fm_ob kc 13 2 := by unfold fm_ob; decide +kernel
theorem ob_18 : fm_ob kc 18 0 := by unfold fm_ob; decide +kernel
theorem ob_23 : fm_ob kc 23 6 := by unfold fm_ob; decide +kernel
theorem ia_rm {c : Nat} (h : c < 6) : fm_ia kc (33 + c) 40 := (by unfold fm_ia; decide +kernel : ∀ c, c < 6 → fm_ia kc (33 + c) 40) c h
theorem ia_rw {c : Nat} (h : c < 6) : fm_ia kc (39 + c) 40 := (by unfold fm_ia; decide +kernel : ∀ c, c < 6 → fm_ia kc (39 + c) 40) c h
theorem ia_rc {c : Nat} (h : c < 6) : fm_ia kc (45 + c) 40 := (by unfold fm_ia; decide +kernel : ∀ c, c < 6 → fm_ia kc (45 + c) 40) c h
theorem ia_wt {c : Nat} (h : c < 6) : fm_ia kc (51 + c) 6 := (by unfold fm_ia; decide +kernel : ∀ c, c < 6 → fm_ia kc (51 + c) 6) c h
theorem ia_sd {c : Nat} (h : c < 6) : fm_ia kc (57 + c) 40 := (by unfold fm_ia; decide +kernel : ∀ c, c < 6 → fm_ia kc (57 + c) 40) c h
theorem ia_ll {c : Nat} (h : c < 41) : fm_ia kc (63 + c) 41 := (by unfold fm_ia; decide +kernel : ∀ c, c < 41 → fm_ia kc (63 + c) 41) c h
theorem ia_sl {c : Nat} (h : c < 40) : fm_ia kc (104 + c) 7 := (by unfold fm_ia; decide +kernel : ∀ c, c < 40 → fm_ia kc (104 + c) 7) c h
theorem ob_reel {c : Nat} (h : c < 6) : fm_ob kc (27 + c) 3 := (by unfold fm_ob; decide +kernel : ∀ c, c < 6 → fm_ob kc (27 + c) 3) c h
theorem ma_1 : fm_ia km 1 7 := by unfold fm_ia; decide +kernel
theorem ma_2 : fm_ia km 2 280 := by unfold fm_ia; decide +kernel
theorem ma_3 : fm_ia km 3 240 := by unfold fm_ia; decide +kernel
theorem ma_4 : fm_ia km 4 240 := by unfold fm_ia; decide +kernel
theorem ma_5 : fm_ia km 5 40 := by unfold fm_ia; decide +kernel
theorem ma_6 : fm_ia km 6 4 := by unfold fm_ia; decide +kernel
theorem ma_7 : fm_ia km 7 12 := by unfold fm_ia; decide +kernel
theorem ma_8 : fm_ia km 8 12 := by unfold fm_ia; decide +kernel
theorem ma_9 : fm_ia km 9 12 := by unfold fm_ia; decide +kernel
theorem ma_10 : fm_ia km 10 12 := by unfold fm_ia; decide +kernel
theorem ma_11 : fm_ia km 11 20 := by unfold fm_ia; decide +kernel
theorem ma_12 : fm_ia km 12 20 := by unfold fm_ia; decide +kernel
theorem ma_13 : fm_ia km 13 20 := by unfold fm_ia; decide +kernel
theorem ma_14 : fm_ia km 14 30 := by unfold fm_ia; decide +kernel
theorem ma_15 : fm_ia km 15 30 := by unfold fm_ia; decide +kernel
theorem ma_16 : fm_ia km 16 1681 := by unfold fm_ia; decide +kernel
theorem ma_17 : fm_ia km 17 40 := by unfold fm_ia; decide +kernel
theorem ma_18 : fm_ia km 18 240 := by unfold fm_ia; decide +kernel
theorem ma_19 : fm_ia km 19 280 := by unfold fm_ia; decide +kernel
theorem ma_20 : fm_ia km 20 40 := by unfold fm_ia; decide +kernel
theorem ma_21 : fm_ia km 21 6 := by unfold fm_ia; decide +kernel
theorem mb_0 : fm_ob km 0 8 := by unfold fm_ob; decide +kernel
def fm_pI (Q : Int → fm_Mem → Prop) : Option Value → fm_Mem → Prop := fun v σ' => ∃ z, v = some (fm_I z) ∧ Q z σ'
def fm_pN (Q : fm_Mem → Prop) : Option Value → fm_Mem → Prop := fun v σ' => v = none ∧ Q σ'
def fm_pR (ω : fm_O) (Q : Nat → fm_Mem → Prop) : Option Value → fm_Mem → Prop := fun v σ' => ∃ k, v = some (fm_r ω k) ∧ Q k σ'
section FMC
variable {S : fm_Sh} {ω : fm_O} {Γ : fm_G} {M : fm_M} {P : Option Value → fm_Mem → Prop} {σ : fm_Mem} {pc : Nat} {L : List (Option Value)} {st : List Value}
theorem fm_iretI {z : Int} {Q : Int → fm_Mem → Prop} (hd : decode M.1 pc = .ok (.ireturn, 1)) (hr : M.2.2.2.2 = some .int) (h : Q z σ) : fm_W S ω Γ M (fm_pI Q) σ pc L [fm_I z] := fm_iret hd hr ⟨z, rfl, h⟩
theorem fm_zretI {z : Int} {Q : Int → fm_Mem → Prop} (hd : decode M.1 pc = .ok (.ireturn, 1)) (hr : M.2.2.2.2 = some .boolean) (hz : z = 0 ∨ z = 1) (h : Q z σ) : fm_W S ω Γ M (fm_pI Q) σ pc L [fm_I z] := fm_zret hd hr hz ⟨z, rfl, h⟩
theorem fm_vretN {Q : fm_Mem → Prop} (hd : decode M.1 pc = .ok (.return_, 1)) (hr : M.2.2.2.2 = none) (h : Q σ) : fm_W S ω Γ M (fm_pN Q) σ pc L [] := fm_vret hd hr ⟨rfl, h⟩
theorem fm_aretR {k0 : Nat} {rt : FieldType} {Q : Nat → fm_Mem → Prop} (hd : decode M.1 pc = .ok (.areturn, 1)) (hr : M.2.2.2.2 = some (.array rt)) (h : Q k0 σ) : fm_W S ω Γ M (fm_pR ω Q) σ pc L [fm_r ω k0] := fm_aret hd hr ⟨k0, rfl, h⟩

theorem fm_cvI {Q : Int → fm_Mem → Prop} {y : MethodName} {rm : Room} {b ci idx maxL n : Nat} {bytes : ByteArray} {ret : Option FieldType} {As rest : List Value} (hd : decode M.1 pc = .ok (.invokevirtual idx, 3)) (hc : fm_CV M.2.1 idx ci y bytes maxL ret n) (hM : fm_Met S ω y bytes maxL ret rm (fm_r ω b :: As) σ (fm_pI Q)) (ho : fm_ob S b ci) (hrc : rm.cells = 0) (hrs : rm.slots = 0)
    (hR : rm.frames + 1 ≤ M.2.2.1.frames ∧ 8 + (maxL + 11) + rm.locals ≤ M.2.2.1.locals) (hn : As.length = n) (hst : st = As.reverse ++ fm_r ω b :: rest) (hW : (rest.map fun v => v.category).sum ≤ 8)
    (kk : ∀ (z : Int) (σ' : fm_Mem), Q z σ' → fm_W S ω Γ M P σ' (pc + 3) L (fm_I z :: rest)) : fm_W S ω Γ M P σ pc L st := fm_callV hd hc hM ho hrc hrs hR hn hst hW (fun v σ' h => by obtain ⟨z, rfl, h2⟩ := h; exact kk z σ' h2)
theorem fm_csI {Q : Int → fm_Mem → Prop} {y : MethodName} {rm : Room} {idx maxL n : Nat} {bytes : ByteArray} {ret : Option FieldType} {As rest : List Value} (hd : decode M.1 pc = .ok (.invokestatic idx, 3)) (hc : fm_CS M.2.1 idx y bytes maxL ret n) (hM : fm_Met S ω y bytes maxL ret rm As σ (fm_pI Q)) (hrc : rm.cells = 0) (hrs : rm.slots = 0)
    (hR : rm.frames + 1 ≤ M.2.2.1.frames ∧ 8 + (maxL + 11) + rm.locals ≤ M.2.2.1.locals) (hn : As.length = n) (hst : st = As.reverse ++ rest) (hW : (rest.map fun v => v.category).sum ≤ 8)
    (kk : ∀ (z : Int) (σ' : fm_Mem), Q z σ' → fm_W S ω Γ M P σ' (pc + 3) L (fm_I z :: rest)) : fm_W S ω Γ M P σ pc L st := fm_callS hd hc hM hrc hrs hR hn hst hW (fun v σ' h => by obtain ⟨z, rfl, h2⟩ := h; exact kk z σ' h2)
theorem fm_cvN {Q : fm_Mem → Prop} {y : MethodName} {rm : Room} {b ci idx maxL n : Nat} {bytes : ByteArray} {ret : Option FieldType} {As rest : List Value} (hd : decode M.1 pc = .ok (.invokevirtual idx, 3)) (hc : fm_CV M.2.1 idx ci y bytes maxL ret n) (hM : fm_Met S ω y bytes maxL ret rm (fm_r ω b :: As) σ (fm_pN Q)) (ho : fm_ob S b ci) (hrc : rm.cells = 0) (hrs : rm.slots = 0)
    (hR : rm.frames + 1 ≤ M.2.2.1.frames ∧ 8 + (maxL + 11) + rm.locals ≤ M.2.2.1.locals) (hn : As.length = n) (hst : st = As.reverse ++ fm_r ω b :: rest) (hW : (rest.map fun v => v.category).sum ≤ 8)
    (kk : ∀  (σ' : fm_Mem), Q σ' → fm_W S ω Γ M P σ' (pc + 3) L (rest)) : fm_W S ω Γ M P σ pc L st := fm_callV hd hc hM ho hrc hrs hR hn hst hW (fun v σ' h => by obtain ⟨rfl, h2⟩ := h; exact kk σ' h2)
theorem fm_csN {Q : fm_Mem → Prop} {y : MethodName} {rm : Room} {idx maxL n : Nat} {bytes : ByteArray} {ret : Option FieldType} {As rest : List Value} (hd : decode M.1 pc = .ok (.invokestatic idx, 3)) (hc : fm_CS M.2.1 idx y bytes maxL ret n) (hM : fm_Met S ω y bytes maxL ret rm As σ (fm_pN Q)) (hrc : rm.cells = 0) (hrs : rm.slots = 0)
    (hR : rm.frames + 1 ≤ M.2.2.1.frames ∧ 8 + (maxL + 11) + rm.locals ≤ M.2.2.1.locals) (hn : As.length = n) (hst : st = As.reverse ++ rest) (hW : (rest.map fun v => v.category).sum ≤ 8)
    (kk : ∀  (σ' : fm_Mem), Q σ' → fm_W S ω Γ M P σ' (pc + 3) L (rest)) : fm_W S ω Γ M P σ pc L st := fm_callS hd hc hM hrc hrs hR hn hst hW (fun v σ' h => by obtain ⟨rfl, h2⟩ := h; exact kk σ' h2)
theorem fm_cvR {Q : Nat → fm_Mem → Prop} {y : MethodName} {rm : Room} {b ci idx maxL n : Nat} {bytes : ByteArray} {ret : Option FieldType} {As rest : List Value} (hd : decode M.1 pc = .ok (.invokevirtual idx, 3)) (hc : fm_CV M.2.1 idx ci y bytes maxL ret n) (hM : fm_Met S ω y bytes maxL ret rm (fm_r ω b :: As) σ (fm_pR ω Q)) (ho : fm_ob S b ci) (hrc : rm.cells = 0) (hrs : rm.slots = 0)
    (hR : rm.frames + 1 ≤ M.2.2.1.frames ∧ 8 + (maxL + 11) + rm.locals ≤ M.2.2.1.locals) (hn : As.length = n) (hst : st = As.reverse ++ fm_r ω b :: rest) (hW : (rest.map fun v => v.category).sum ≤ 8)
    (kk : ∀ (z : Nat) (σ' : fm_Mem), Q z σ' → fm_W S ω Γ M P σ' (pc + 3) L (fm_r ω z :: rest)) : fm_W S ω Γ M P σ pc L st := fm_callV hd hc hM ho hrc hrs hR hn hst hW (fun v σ' h => by obtain ⟨z, rfl, h2⟩ := h; exact kk z σ' h2)
theorem fm_csR {Q : Nat → fm_Mem → Prop} {y : MethodName} {rm : Room} {idx maxL n : Nat} {bytes : ByteArray} {ret : Option FieldType} {As rest : List Value} (hd : decode M.1 pc = .ok (.invokestatic idx, 3)) (hc : fm_CS M.2.1 idx y bytes maxL ret n) (hM : fm_Met S ω y bytes maxL ret rm As σ (fm_pR ω Q)) (hrc : rm.cells = 0) (hrs : rm.slots = 0)
    (hR : rm.frames + 1 ≤ M.2.2.1.frames ∧ 8 + (maxL + 11) + rm.locals ≤ M.2.2.1.locals) (hn : As.length = n) (hst : st = As.reverse ++ rest) (hW : (rest.map fun v => v.category).sum ≤ 8)
    (kk : ∀ (z : Nat) (σ' : fm_Mem), Q z σ' → fm_W S ω Γ M P σ' (pc + 3) L (fm_r ω z :: rest)) : fm_W S ω Γ M P σ pc L st := fm_callS hd hc hM hrc hrs hR hn hst hW (fun v σ' h => by obtain ⟨z, rfl, h2⟩ := h; exact kk z σ' h2)
end FMC
section FMK
variable {ω : fm_O} {Γ : fm_G} {M : fm_M} {P : Option Value → fm_Mem → Prop} {σ : fm_Mem} {pc : Nat} {L : List (Option Value)} {st : List Value}
theorem gr_7_0 {idx : Nat} (hd : decode M.1 pc = .ok (.getfield idx, 3)) (hF : fm_Fd M.2.1 7 0 idx) (kk : fm_W kc ω Γ M P σ (pc + 3) L (fm_r ω 1 :: st)) : fm_W kc ω Γ M P σ pc L (fm_r ω 0 :: st) := fm_getR 1 hd hF ob_0 (by decide) rfl rfl kk
theorem gi_7_1 {idx : Nat} (hd : decode M.1 pc = .ok (.getfield idx, 3)) (hF : fm_Fd M.2.1 7 1 idx) (kk : fm_W kc ω Γ M P σ (pc + 3) L (fm_I (σ 0 1) :: st)) : fm_W kc ω Γ M P σ pc L (fm_r ω 0 :: st) := fm_getI hd hF ob_0 (by decide) rfl kk
theorem pf_7_1 {idx : Nat} {z : Int} (hd : decode M.1 pc = .ok (.putfield idx, 3)) (hF : fm_Fd M.2.1 7 1 idx) (kk : fm_W kc ω Γ M P (fm_up σ 0 1 z) (pc + 3) L st) : fm_W kc ω Γ M P σ pc L (fm_I z :: fm_r ω 0 :: st) := fm_put hd hF wr_X8_1 ob_0 (by decide) rfl kk
theorem gr_7_2 {idx : Nat} (hd : decode M.1 pc = .ok (.getfield idx, 3)) (hF : fm_Fd M.2.1 7 2 idx) (kk : fm_W kc ω Γ M P σ (pc + 3) L (fm_r ω 2 :: st)) : fm_W kc ω Γ M P σ pc L (fm_r ω 0 :: st) := fm_getR 2 hd hF ob_0 (by decide) rfl rfl kk
theorem gr_7_3 {idx : Nat} (hd : decode M.1 pc = .ok (.getfield idx, 3)) (hF : fm_Fd M.2.1 7 3 idx) (kk : fm_W kc ω Γ M P σ (pc + 3) L (fm_r ω 5 :: st)) : fm_W kc ω Γ M P σ pc L (fm_r ω 0 :: st) := fm_getR 5 hd hF ob_0 (by decide) rfl rfl kk
theorem gr_7_4 {idx : Nat} (hd : decode M.1 pc = .ok (.getfield idx, 3)) (hF : fm_Fd M.2.1 7 4 idx) (kk : fm_W kc ω Γ M P σ (pc + 3) L (fm_r ω 6 :: st)) : fm_W kc ω Γ M P σ pc L (fm_r ω 0 :: st) := fm_getR 6 hd hF ob_0 (by decide) rfl rfl kk
theorem gr_7_5 {idx : Nat} (hd : decode M.1 pc = .ok (.getfield idx, 3)) (hF : fm_Fd M.2.1 7 5 idx) (kk : fm_W kc ω Γ M P σ (pc + 3) L (fm_r ω 9 :: st)) : fm_W kc ω Γ M P σ pc L (fm_r ω 0 :: st) := fm_getR 9 hd hF ob_0 (by decide) rfl rfl kk
theorem gr_7_6 {idx : Nat} (hd : decode M.1 pc = .ok (.getfield idx, 3)) (hF : fm_Fd M.2.1 7 6 idx) (kk : fm_W kc ω Γ M P σ (pc + 3) L (fm_r ω 13 :: st)) : fm_W kc ω Γ M P σ pc L (fm_r ω 0 :: st) := fm_getR 13 hd hF ob_0 (by decide) rfl rfl kk
theorem gr_7_7 {idx : Nat} (hd : decode M.1 pc = .ok (.getfield idx, 3)) (hF : fm_Fd M.2.1 7 7 idx) (kk : fm_W kc ω Γ M P σ (pc + 3) L (fm_r ω 18 :: st)) : fm_W kc ω Γ M P σ pc L (fm_r ω 0 :: st) := fm_getR 18 hd hF ob_0 (by decide) rfl rfl kk
theorem gr_7_8 {idx : Nat} (hd : decode M.1 pc = .ok (.getfield idx, 3)) (hF : fm_Fd M.2.1 7 8 idx) (kk : fm_W kc ω Γ M P σ (pc + 3) L (fm_r ω 23 :: st)) : fm_W kc ω Γ M P σ pc L (fm_r ω 0 :: st) := fm_getR 23 hd hF ob_0 (by decide) rfl rfl kk
theorem gr_4_0 {idx : Nat} (hd : decode M.1 pc = .ok (.getfield idx, 3)) (hF : fm_Fd M.2.1 4 0 idx) (kk : fm_W kc ω Γ M P σ (pc + 3) L (fm_r ω 3 :: st)) : fm_W kc ω Γ M P σ pc L (fm_r ω 2 :: st) := fm_getR 3 hd hF ob_2 (by decide) rfl rfl kk
theorem gr_4_1 {idx : Nat} (hd : decode M.1 pc = .ok (.getfield idx, 3)) (hF : fm_Fd M.2.1 4 1 idx) (kk : fm_W kc ω Γ M P σ (pc + 3) L (fm_r ω 4 :: st)) : fm_W kc ω Γ M P σ pc L (fm_r ω 2 :: st) := fm_getR 4 hd hF ob_2 (by decide) rfl rfl kk
theorem gi_4_2 {idx : Nat} (hd : decode M.1 pc = .ok (.getfield idx, 3)) (hF : fm_Fd M.2.1 4 2 idx) (kk : fm_W kc ω Γ M P σ (pc + 3) L (fm_I (σ 2 2) :: st)) : fm_W kc ω Γ M P σ pc L (fm_r ω 2 :: st) := fm_getI hd hF ob_2 (by decide) rfl kk
theorem pf_4_2 {idx : Nat} {z : Int} (hd : decode M.1 pc = .ok (.putfield idx, 3)) (hF : fm_Fd M.2.1 4 2 idx) (kk : fm_W kc ω Γ M P (fm_up σ 2 2 z) (pc + 3) L st) : fm_W kc ω Γ M P σ pc L (fm_I z :: fm_r ω 2 :: st) := fm_put hd hF wr_X4_2 ob_2 (by decide) rfl kk
theorem gr_1_0 {idx : Nat} (hd : decode M.1 pc = .ok (.getfield idx, 3)) (hF : fm_Fd M.2.1 1 0 idx) (kk : fm_W kc ω Γ M P σ (pc + 3) L (fm_r ω 7 :: st)) : fm_W kc ω Γ M P σ pc L (fm_r ω 6 :: st) := fm_getR 7 hd hF ob_6 (by decide) rfl rfl kk
theorem gr_1_1 {idx : Nat} (hd : decode M.1 pc = .ok (.getfield idx, 3)) (hF : fm_Fd M.2.1 1 1 idx) (kk : fm_W kc ω Γ M P σ (pc + 3) L (fm_r ω 8 :: st)) : fm_W kc ω Γ M P σ pc L (fm_r ω 6 :: st) := fm_getR 8 hd hF ob_6 (by decide) rfl rfl kk
theorem gr_5_0 {idx : Nat} (hd : decode M.1 pc = .ok (.getfield idx, 3)) (hF : fm_Fd M.2.1 5 0 idx) (kk : fm_W kc ω Γ M P σ (pc + 3) L (fm_r ω 2 :: st)) : fm_W kc ω Γ M P σ pc L (fm_r ω 9 :: st) := fm_getR 2 hd hF ob_9 (by decide) rfl rfl kk
theorem gr_5_1 {idx : Nat} (hd : decode M.1 pc = .ok (.getfield idx, 3)) (hF : fm_Fd M.2.1 5 1 idx) (kk : fm_W kc ω Γ M P σ (pc + 3) L (fm_r ω 1 :: st)) : fm_W kc ω Γ M P σ pc L (fm_r ω 9 :: st) := fm_getR 1 hd hF ob_9 (by decide) rfl rfl kk
theorem gr_5_2 {idx : Nat} (hd : decode M.1 pc = .ok (.getfield idx, 3)) (hF : fm_Fd M.2.1 5 2 idx) (kk : fm_W kc ω Γ M P σ (pc + 3) L (fm_r ω 5 :: st)) : fm_W kc ω Γ M P σ pc L (fm_r ω 9 :: st) := fm_getR 5 hd hF ob_9 (by decide) rfl rfl kk
theorem gr_5_3 {idx : Nat} (hd : decode M.1 pc = .ok (.getfield idx, 3)) (hF : fm_Fd M.2.1 5 3 idx) (kk : fm_W kc ω Γ M P σ (pc + 3) L (fm_r ω 6 :: st)) : fm_W kc ω Γ M P σ pc L (fm_r ω 9 :: st) := fm_getR 6 hd hF ob_9 (by decide) rfl rfl kk
theorem gr_5_4 {idx : Nat} (hd : decode M.1 pc = .ok (.getfield idx, 3)) (hF : fm_Fd M.2.1 5 4 idx) (kk : fm_W kc ω Γ M P σ (pc + 3) L (fm_r ω 10 :: st)) : fm_W kc ω Γ M P σ pc L (fm_r ω 9 :: st) := fm_getR 10 hd hF ob_9 (by decide) rfl rfl kk
theorem gr_5_5 {idx : Nat} (hd : decode M.1 pc = .ok (.getfield idx, 3)) (hF : fm_Fd M.2.1 5 5 idx) (kk : fm_W kc ω Γ M P σ (pc + 3) L (fm_r ω 11 :: st)) : fm_W kc ω Γ M P σ pc L (fm_r ω 9 :: st) := fm_getR 11 hd hF ob_9 (by decide) rfl rfl kk
theorem gr_5_6 {idx : Nat} (hd : decode M.1 pc = .ok (.getfield idx, 3)) (hF : fm_Fd M.2.1 5 6 idx) (kk : fm_W kc ω Γ M P σ (pc + 3) L (fm_r ω 12 :: st)) : fm_W kc ω Γ M P σ pc L (fm_r ω 9 :: st) := fm_getR 12 hd hF ob_9 (by decide) rfl rfl kk
theorem gi_5_7 {idx : Nat} (hd : decode M.1 pc = .ok (.getfield idx, 3)) (hF : fm_Fd M.2.1 5 7 idx) (kk : fm_W kc ω Γ M P σ (pc + 3) L (fm_I (σ 9 7) :: st)) : fm_W kc ω Γ M P σ pc L (fm_r ω 9 :: st) := fm_getI hd hF ob_9 (by decide) rfl kk
theorem pf_5_7 {idx : Nat} {z : Int} (hd : decode M.1 pc = .ok (.putfield idx, 3)) (hF : fm_Fd M.2.1 5 7 idx) (kk : fm_W kc ω Γ M P (fm_up σ 9 7 z) (pc + 3) L st) : fm_W kc ω Γ M P σ pc L (fm_I z :: fm_r ω 9 :: st) := fm_put hd hF wr_X5_7 ob_9 (by decide) rfl kk
theorem gr_2_0 {idx : Nat} (hd : decode M.1 pc = .ok (.getfield idx, 3)) (hF : fm_Fd M.2.1 2 0 idx) (kk : fm_W kc ω Γ M P σ (pc + 3) L (fm_r ω 14 :: st)) : fm_W kc ω Γ M P σ pc L (fm_r ω 13 :: st) := fm_getR 14 hd hF ob_13 (by decide) rfl rfl kk
theorem gr_2_1 {idx : Nat} (hd : decode M.1 pc = .ok (.getfield idx, 3)) (hF : fm_Fd M.2.1 2 1 idx) (kk : fm_W kc ω Γ M P σ (pc + 3) L (fm_r ω 15 :: st)) : fm_W kc ω Γ M P σ pc L (fm_r ω 13 :: st) := fm_getR 15 hd hF ob_13 (by decide) rfl rfl kk
theorem gr_2_2 {idx : Nat} (hd : decode M.1 pc = .ok (.getfield idx, 3)) (hF : fm_Fd M.2.1 2 2 idx) (kk : fm_W kc ω Γ M P σ (pc + 3) L (fm_r ω 16 :: st)) : fm_W kc ω Γ M P σ pc L (fm_r ω 13 :: st) := fm_getR 16 hd hF ob_13 (by decide) rfl rfl kk
theorem gr_2_3 {idx : Nat} (hd : decode M.1 pc = .ok (.getfield idx, 3)) (hF : fm_Fd M.2.1 2 3 idx) (kk : fm_W kc ω Γ M P σ (pc + 3) L (fm_r ω 17 :: st)) : fm_W kc ω Γ M P σ pc L (fm_r ω 13 :: st) := fm_getR 17 hd hF ob_13 (by decide) rfl rfl kk
theorem gi_2_4 {idx : Nat} (hd : decode M.1 pc = .ok (.getfield idx, 3)) (hF : fm_Fd M.2.1 2 4 idx) (kk : fm_W kc ω Γ M P σ (pc + 3) L (fm_I (σ 13 4) :: st)) : fm_W kc ω Γ M P σ pc L (fm_r ω 13 :: st) := fm_getI hd hF ob_13 (by decide) rfl kk
theorem pf_2_4 {idx : Nat} {z : Int} (hd : decode M.1 pc = .ok (.putfield idx, 3)) (hF : fm_Fd M.2.1 2 4 idx) (kk : fm_W kc ω Γ M P (fm_up σ 13 4 z) (pc + 3) L st) : fm_W kc ω Γ M P σ pc L (fm_I z :: fm_r ω 13 :: st) := fm_put hd hF wr_X2_4 ob_13 (by decide) rfl kk
theorem gr_0_0 {idx : Nat} (hd : decode M.1 pc = .ok (.getfield idx, 3)) (hF : fm_Fd M.2.1 0 0 idx) (kk : fm_W kc ω Γ M P σ (pc + 3) L (fm_r ω 19 :: st)) : fm_W kc ω Γ M P σ pc L (fm_r ω 18 :: st) := fm_getR 19 hd hF ob_18 (by decide) rfl rfl kk
theorem gr_0_1 {idx : Nat} (hd : decode M.1 pc = .ok (.getfield idx, 3)) (hF : fm_Fd M.2.1 0 1 idx) (kk : fm_W kc ω Γ M P σ (pc + 3) L (fm_r ω 20 :: st)) : fm_W kc ω Γ M P σ pc L (fm_r ω 18 :: st) := fm_getR 20 hd hF ob_18 (by decide) rfl rfl kk
theorem gr_0_2 {idx : Nat} (hd : decode M.1 pc = .ok (.getfield idx, 3)) (hF : fm_Fd M.2.1 0 2 idx) (kk : fm_W kc ω Γ M P σ (pc + 3) L (fm_r ω 21 :: st)) : fm_W kc ω Γ M P σ pc L (fm_r ω 18 :: st) := fm_getR 21 hd hF ob_18 (by decide) rfl rfl kk
theorem gr_0_3 {idx : Nat} (hd : decode M.1 pc = .ok (.getfield idx, 3)) (hF : fm_Fd M.2.1 0 3 idx) (kk : fm_W kc ω Γ M P σ (pc + 3) L (fm_r ω 22 :: st)) : fm_W kc ω Γ M P σ pc L (fm_r ω 18 :: st) := fm_getR 22 hd hF ob_18 (by decide) rfl rfl kk
theorem gi_0_4 {idx : Nat} (hd : decode M.1 pc = .ok (.getfield idx, 3)) (hF : fm_Fd M.2.1 0 4 idx) (kk : fm_W kc ω Γ M P σ (pc + 3) L (fm_I (σ 18 4) :: st)) : fm_W kc ω Γ M P σ pc L (fm_r ω 18 :: st) := fm_getI hd hF ob_18 (by decide) rfl kk
theorem pf_0_4 {idx : Nat} {z : Int} (hd : decode M.1 pc = .ok (.putfield idx, 3)) (hF : fm_Fd M.2.1 0 4 idx) (kk : fm_W kc ω Γ M P (fm_up σ 18 4 z) (pc + 3) L st) : fm_W kc ω Γ M P σ pc L (fm_I z :: fm_r ω 18 :: st) := fm_put hd hF wr_X0_4 ob_18 (by decide) rfl kk
theorem gr_6_0 {idx : Nat} (hd : decode M.1 pc = .ok (.getfield idx, 3)) (hF : fm_Fd M.2.1 6 0 idx) (kk : fm_W kc ω Γ M P σ (pc + 3) L (fm_r ω 24 :: st)) : fm_W kc ω Γ M P σ pc L (fm_r ω 23 :: st) := fm_getR 24 hd hF ob_23 (by decide) rfl rfl kk
theorem gr_6_1 {idx : Nat} (hd : decode M.1 pc = .ok (.getfield idx, 3)) (hF : fm_Fd M.2.1 6 1 idx) (kk : fm_W kc ω Γ M P σ (pc + 3) L (fm_r ω 25 :: st)) : fm_W kc ω Γ M P σ pc L (fm_r ω 23 :: st) := fm_getR 25 hd hF ob_23 (by decide) rfl rfl kk
theorem gr_6_2 {idx : Nat} (hd : decode M.1 pc = .ok (.getfield idx, 3)) (hF : fm_Fd M.2.1 6 2 idx) (kk : fm_W kc ω Γ M P σ (pc + 3) L (fm_r ω 26 :: st)) : fm_W kc ω Γ M P σ pc L (fm_r ω 23 :: st) := fm_getR 26 hd hF ob_23 (by decide) rfl rfl kk
theorem gi_6_3 {idx : Nat} (hd : decode M.1 pc = .ok (.getfield idx, 3)) (hF : fm_Fd M.2.1 6 3 idx) (kk : fm_W kc ω Γ M P σ (pc + 3) L (fm_I (σ 23 3) :: st)) : fm_W kc ω Γ M P σ pc L (fm_r ω 23 :: st) := fm_getI hd hF ob_23 (by decide) rfl kk
theorem pf_6_3 {idx : Nat} {z : Int} (hd : decode M.1 pc = .ok (.putfield idx, 3)) (hF : fm_Fd M.2.1 6 3 idx) (kk : fm_W kc ω Γ M P (fm_up σ 23 3 z) (pc + 3) L st) : fm_W kc ω Γ M P σ pc L (fm_I z :: fm_r ω 23 :: st) := fm_put hd hF wr_X6_3 ob_23 (by decide) rfl kk
theorem gr_3_0 {idx c : Nat} (hc : c < 6) (hd : decode M.1 pc = .ok (.getfield idx, 3)) (hF : fm_Fd M.2.1 3 0 idx) (kk : fm_W kc ω Γ M P σ (pc + 3) L (fm_r ω (33 + c) :: st)) : fm_W kc ω Γ M P σ pc L (fm_r ω (27 + c) :: st) := fm_getR (33 + c) hd hF (ob_reel hc) (by decide) rfl ((by decide +kernel : ∀ c, c < 6 → kc.2.2.1 (27 + c) 0 = 33 + c) c hc) kk
theorem gr_3_1 {idx c : Nat} (hc : c < 6) (hd : decode M.1 pc = .ok (.getfield idx, 3)) (hF : fm_Fd M.2.1 3 1 idx) (kk : fm_W kc ω Γ M P σ (pc + 3) L (fm_r ω (39 + c) :: st)) : fm_W kc ω Γ M P σ pc L (fm_r ω (27 + c) :: st) := fm_getR (39 + c) hd hF (ob_reel hc) (by decide) rfl ((by decide +kernel : ∀ c, c < 6 → kc.2.2.1 (27 + c) 1 = 39 + c) c hc) kk
theorem gr_3_2 {idx c : Nat} (hc : c < 6) (hd : decode M.1 pc = .ok (.getfield idx, 3)) (hF : fm_Fd M.2.1 3 2 idx) (kk : fm_W kc ω Γ M P σ (pc + 3) L (fm_r ω (45 + c) :: st)) : fm_W kc ω Γ M P σ pc L (fm_r ω (27 + c) :: st) := fm_getR (45 + c) hd hF (ob_reel hc) (by decide) rfl ((by decide +kernel : ∀ c, c < 6 → kc.2.2.1 (27 + c) 2 = 45 + c) c hc) kk
theorem gi_3_3 {idx c : Nat} (hc : c < 6) (hd : decode M.1 pc = .ok (.getfield idx, 3)) (hF : fm_Fd M.2.1 3 3 idx) (kk : fm_W kc ω Γ M P σ (pc + 3) L (fm_I (σ (27 + c) 3) :: st)) : fm_W kc ω Γ M P σ pc L (fm_r ω (27 + c) :: st) := fm_getI hd hF (ob_reel hc) (by decide) rfl kk
theorem pf_3_3 {idx c : Nat} {z : Int} (hc : c < 6) (hd : decode M.1 pc = .ok (.putfield idx, 3)) (hF : fm_Fd M.2.1 3 3 idx) (kk : fm_W kc ω Γ M P (fm_up σ (27 + c) 3 z) (pc + 3) L st) : fm_W kc ω Γ M P σ pc L (fm_I z :: fm_r ω (27 + c) :: st) := fm_put hd hF wr_X3_3 (ob_reel hc) (by decide) rfl kk
theorem ar_1 {i : Int} (h0 : 0 ≤ i) (h1 : i < 6) (hd : decode M.1 pc = .ok (.aaload, 1)) (kk : fm_W kc ω Γ M P σ (pc + 1) L (fm_r ω (27 + i.toNat) :: st)) : fm_W kc ω Γ M P σ pc L (fm_I i :: fm_r ω 1 :: st) := fm_aald (t := 1) (n := 6) (27 + i.toNat) hd (by unfold fm_ra; decide +kernel) h0 h1 rfl kk
theorem ar_7 {i : Int} (h0 : 0 ≤ i) (h1 : i < 41) (hd : decode M.1 pc = .ok (.aaload, 1)) (kk : fm_W kc ω Γ M P σ (pc + 1) L (fm_r ω (63 + i.toNat) :: st)) : fm_W kc ω Γ M P σ pc L (fm_I i :: fm_r ω 7 :: st) := fm_aald (t := 2) (n := 41) (63 + i.toNat) hd (by unfold fm_ra; decide +kernel) h0 h1 rfl kk
theorem ar_10 {i : Int} (h0 : 0 ≤ i) (h1 : i < 6) (hd : decode M.1 pc = .ok (.aaload, 1)) (kk : fm_W kc ω Γ M P σ (pc + 1) L (fm_r ω (57 + i.toNat) :: st)) : fm_W kc ω Γ M P σ pc L (fm_I i :: fm_r ω 10 :: st) := fm_aald (t := 2) (n := 6) (57 + i.toNat) hd (by unfold fm_ra; decide +kernel) h0 h1 rfl kk
theorem ar_11 {i : Int} (h0 : 0 ≤ i) (h1 : i < 40) (hd : decode M.1 pc = .ok (.aaload, 1)) (kk : fm_W kc ω Γ M P σ (pc + 1) L (fm_r ω (104 + i.toNat) :: st)) : fm_W kc ω Γ M P σ pc L (fm_I i :: fm_r ω 11 :: st) := fm_aald (t := 2) (n := 40) (104 + i.toNat) hd (by unfold fm_ra; decide +kernel) h0 h1 rfl kk
theorem ar_19 {i : Int} (h0 : 0 ≤ i) (h1 : i < 6) (hd : decode M.1 pc = .ok (.aaload, 1)) (kk : fm_W kc ω Γ M P σ (pc + 1) L (fm_r ω (51 + i.toNat) :: st)) : fm_W kc ω Γ M P σ pc L (fm_I i :: fm_r ω 19 :: st) := fm_aald (t := 2) (n := 6) (51 + i.toNat) hd (by unfold fm_ra; decide +kernel) h0 h1 rfl kk
theorem gi_8_0 {idx : Nat} (hd : decode M.1 pc = .ok (.getfield idx, 3)) (hF : fm_Fd M.2.1 8 0 idx) (kk : fm_W km ω Γ M P σ (pc + 3) L (fm_I (σ 0 0) :: st)) : fm_W km ω Γ M P σ pc L (fm_r ω 0 :: st) := fm_getI hd hF mb_0 (by decide) rfl kk
theorem pf_8_0 {idx : Nat} {z : Int} (hd : decode M.1 pc = .ok (.putfield idx, 3)) (hF : fm_Fd M.2.1 8 0 idx) (kk : fm_W km ω Γ M P (fm_up σ 0 0 z) (pc + 3) L st) : fm_W km ω Γ M P σ pc L (fm_I z :: fm_r ω 0 :: st) := fm_put hd hF wr_X9_0 mb_0 (by decide) rfl kk
theorem gr_8_1 {idx : Nat} (hd : decode M.1 pc = .ok (.getfield idx, 3)) (hF : fm_Fd M.2.1 8 1 idx) (kk : fm_W km ω Γ M P σ (pc + 3) L (fm_r ω 1 :: st)) : fm_W km ω Γ M P σ pc L (fm_r ω 0 :: st) := fm_getR 1 hd hF mb_0 (by decide) rfl rfl kk
theorem gr_8_2 {idx : Nat} (hd : decode M.1 pc = .ok (.getfield idx, 3)) (hF : fm_Fd M.2.1 8 2 idx) (kk : fm_W km ω Γ M P σ (pc + 3) L (fm_r ω 2 :: st)) : fm_W km ω Γ M P σ pc L (fm_r ω 0 :: st) := fm_getR 2 hd hF mb_0 (by decide) rfl rfl kk
theorem gr_8_3 {idx : Nat} (hd : decode M.1 pc = .ok (.getfield idx, 3)) (hF : fm_Fd M.2.1 8 3 idx) (kk : fm_W km ω Γ M P σ (pc + 3) L (fm_r ω 3 :: st)) : fm_W km ω Γ M P σ pc L (fm_r ω 0 :: st) := fm_getR 3 hd hF mb_0 (by decide) rfl rfl kk
theorem gr_8_4 {idx : Nat} (hd : decode M.1 pc = .ok (.getfield idx, 3)) (hF : fm_Fd M.2.1 8 4 idx) (kk : fm_W km ω Γ M P σ (pc + 3) L (fm_r ω 4 :: st)) : fm_W km ω Γ M P σ pc L (fm_r ω 0 :: st) := fm_getR 4 hd hF mb_0 (by decide) rfl rfl kk
theorem gr_8_5 {idx : Nat} (hd : decode M.1 pc = .ok (.getfield idx, 3)) (hF : fm_Fd M.2.1 8 5 idx) (kk : fm_W km ω Γ M P σ (pc + 3) L (fm_r ω 5 :: st)) : fm_W km ω Γ M P σ pc L (fm_r ω 0 :: st) := fm_getR 5 hd hF mb_0 (by decide) rfl rfl kk
theorem gr_8_6 {idx : Nat} (hd : decode M.1 pc = .ok (.getfield idx, 3)) (hF : fm_Fd M.2.1 8 6 idx) (kk : fm_W km ω Γ M P σ (pc + 3) L (fm_r ω 6 :: st)) : fm_W km ω Γ M P σ pc L (fm_r ω 0 :: st) := fm_getR 6 hd hF mb_0 (by decide) rfl rfl kk
theorem gi_8_7 {idx : Nat} (hd : decode M.1 pc = .ok (.getfield idx, 3)) (hF : fm_Fd M.2.1 8 7 idx) (kk : fm_W km ω Γ M P σ (pc + 3) L (fm_I (σ 0 7) :: st)) : fm_W km ω Γ M P σ pc L (fm_r ω 0 :: st) := fm_getI hd hF mb_0 (by decide) rfl kk
theorem pf_8_7 {idx : Nat} {z : Int} (hd : decode M.1 pc = .ok (.putfield idx, 3)) (hF : fm_Fd M.2.1 8 7 idx) (kk : fm_W km ω Γ M P (fm_up σ 0 7 z) (pc + 3) L st) : fm_W km ω Γ M P σ pc L (fm_I z :: fm_r ω 0 :: st) := fm_put hd hF wr_X9_7 mb_0 (by decide) rfl kk
theorem gr_8_8 {idx : Nat} (hd : decode M.1 pc = .ok (.getfield idx, 3)) (hF : fm_Fd M.2.1 8 8 idx) (kk : fm_W km ω Γ M P σ (pc + 3) L (fm_r ω 7 :: st)) : fm_W km ω Γ M P σ pc L (fm_r ω 0 :: st) := fm_getR 7 hd hF mb_0 (by decide) rfl rfl kk
theorem gr_8_9 {idx : Nat} (hd : decode M.1 pc = .ok (.getfield idx, 3)) (hF : fm_Fd M.2.1 8 9 idx) (kk : fm_W km ω Γ M P σ (pc + 3) L (fm_r ω 8 :: st)) : fm_W km ω Γ M P σ pc L (fm_r ω 0 :: st) := fm_getR 8 hd hF mb_0 (by decide) rfl rfl kk
theorem gr_8_10 {idx : Nat} (hd : decode M.1 pc = .ok (.getfield idx, 3)) (hF : fm_Fd M.2.1 8 10 idx) (kk : fm_W km ω Γ M P σ (pc + 3) L (fm_r ω 9 :: st)) : fm_W km ω Γ M P σ pc L (fm_r ω 0 :: st) := fm_getR 9 hd hF mb_0 (by decide) rfl rfl kk
theorem gr_8_11 {idx : Nat} (hd : decode M.1 pc = .ok (.getfield idx, 3)) (hF : fm_Fd M.2.1 8 11 idx) (kk : fm_W km ω Γ M P σ (pc + 3) L (fm_r ω 10 :: st)) : fm_W km ω Γ M P σ pc L (fm_r ω 0 :: st) := fm_getR 10 hd hF mb_0 (by decide) rfl rfl kk
theorem gi_8_12 {idx : Nat} (hd : decode M.1 pc = .ok (.getfield idx, 3)) (hF : fm_Fd M.2.1 8 12 idx) (kk : fm_W km ω Γ M P σ (pc + 3) L (fm_I (σ 0 12) :: st)) : fm_W km ω Γ M P σ pc L (fm_r ω 0 :: st) := fm_getI hd hF mb_0 (by decide) rfl kk
theorem pf_8_12 {idx : Nat} {z : Int} (hd : decode M.1 pc = .ok (.putfield idx, 3)) (hF : fm_Fd M.2.1 8 12 idx) (kk : fm_W km ω Γ M P (fm_up σ 0 12 z) (pc + 3) L st) : fm_W km ω Γ M P σ pc L (fm_I z :: fm_r ω 0 :: st) := fm_put hd hF wr_X9_12 mb_0 (by decide) rfl kk
theorem gr_8_13 {idx : Nat} (hd : decode M.1 pc = .ok (.getfield idx, 3)) (hF : fm_Fd M.2.1 8 13 idx) (kk : fm_W km ω Γ M P σ (pc + 3) L (fm_r ω 11 :: st)) : fm_W km ω Γ M P σ pc L (fm_r ω 0 :: st) := fm_getR 11 hd hF mb_0 (by decide) rfl rfl kk
theorem gr_8_14 {idx : Nat} (hd : decode M.1 pc = .ok (.getfield idx, 3)) (hF : fm_Fd M.2.1 8 14 idx) (kk : fm_W km ω Γ M P σ (pc + 3) L (fm_r ω 12 :: st)) : fm_W km ω Γ M P σ pc L (fm_r ω 0 :: st) := fm_getR 12 hd hF mb_0 (by decide) rfl rfl kk
theorem gr_8_15 {idx : Nat} (hd : decode M.1 pc = .ok (.getfield idx, 3)) (hF : fm_Fd M.2.1 8 15 idx) (kk : fm_W km ω Γ M P σ (pc + 3) L (fm_r ω 13 :: st)) : fm_W km ω Γ M P σ pc L (fm_r ω 0 :: st) := fm_getR 13 hd hF mb_0 (by decide) rfl rfl kk
theorem gi_8_16 {idx : Nat} (hd : decode M.1 pc = .ok (.getfield idx, 3)) (hF : fm_Fd M.2.1 8 16 idx) (kk : fm_W km ω Γ M P σ (pc + 3) L (fm_I (σ 0 16) :: st)) : fm_W km ω Γ M P σ pc L (fm_r ω 0 :: st) := fm_getI hd hF mb_0 (by decide) rfl kk
theorem pf_8_16 {idx : Nat} {z : Int} (hd : decode M.1 pc = .ok (.putfield idx, 3)) (hF : fm_Fd M.2.1 8 16 idx) (kk : fm_W km ω Γ M P (fm_up σ 0 16 z) (pc + 3) L st) : fm_W km ω Γ M P σ pc L (fm_I z :: fm_r ω 0 :: st) := fm_put hd hF wr_X9_16 mb_0 (by decide) rfl kk
theorem gr_8_17 {idx : Nat} (hd : decode M.1 pc = .ok (.getfield idx, 3)) (hF : fm_Fd M.2.1 8 17 idx) (kk : fm_W km ω Γ M P σ (pc + 3) L (fm_r ω 14 :: st)) : fm_W km ω Γ M P σ pc L (fm_r ω 0 :: st) := fm_getR 14 hd hF mb_0 (by decide) rfl rfl kk
theorem gr_8_18 {idx : Nat} (hd : decode M.1 pc = .ok (.getfield idx, 3)) (hF : fm_Fd M.2.1 8 18 idx) (kk : fm_W km ω Γ M P σ (pc + 3) L (fm_r ω 15 :: st)) : fm_W km ω Γ M P σ pc L (fm_r ω 0 :: st) := fm_getR 15 hd hF mb_0 (by decide) rfl rfl kk
theorem gr_8_19 {idx : Nat} (hd : decode M.1 pc = .ok (.getfield idx, 3)) (hF : fm_Fd M.2.1 8 19 idx) (kk : fm_W km ω Γ M P σ (pc + 3) L (fm_r ω 16 :: st)) : fm_W km ω Γ M P σ pc L (fm_r ω 0 :: st) := fm_getR 16 hd hF mb_0 (by decide) rfl rfl kk
theorem gr_8_20 {idx : Nat} (hd : decode M.1 pc = .ok (.getfield idx, 3)) (hF : fm_Fd M.2.1 8 20 idx) (kk : fm_W km ω Γ M P σ (pc + 3) L (fm_r ω 17 :: st)) : fm_W km ω Γ M P σ pc L (fm_r ω 0 :: st) := fm_getR 17 hd hF mb_0 (by decide) rfl rfl kk
theorem gr_8_21 {idx : Nat} (hd : decode M.1 pc = .ok (.getfield idx, 3)) (hF : fm_Fd M.2.1 8 21 idx) (kk : fm_W km ω Γ M P σ (pc + 3) L (fm_r ω 18 :: st)) : fm_W km ω Γ M P σ pc L (fm_r ω 0 :: st) := fm_getR 18 hd hF mb_0 (by decide) rfl rfl kk
theorem gr_8_22 {idx : Nat} (hd : decode M.1 pc = .ok (.getfield idx, 3)) (hF : fm_Fd M.2.1 8 22 idx) (kk : fm_W km ω Γ M P σ (pc + 3) L (fm_r ω 19 :: st)) : fm_W km ω Γ M P σ pc L (fm_r ω 0 :: st) := fm_getR 19 hd hF mb_0 (by decide) rfl rfl kk
theorem gr_8_23 {idx : Nat} (hd : decode M.1 pc = .ok (.getfield idx, 3)) (hF : fm_Fd M.2.1 8 23 idx) (kk : fm_W km ω Γ M P σ (pc + 3) L (fm_r ω 20 :: st)) : fm_W km ω Γ M P σ pc L (fm_r ω 0 :: st) := fm_getR 20 hd hF mb_0 (by decide) rfl rfl kk
theorem gr_8_24 {idx : Nat} (hd : decode M.1 pc = .ok (.getfield idx, 3)) (hF : fm_Fd M.2.1 8 24 idx) (kk : fm_W km ω Γ M P σ (pc + 3) L (fm_r ω 21 :: st)) : fm_W km ω Γ M P σ pc L (fm_r ω 0 :: st) := fm_getR 21 hd hF mb_0 (by decide) rfl rfl kk
end FMK
end
section
theorem fm_up_ne {σ : fm_Mem} {k j a b : Nat} {v : Int} (h : a ≠ k) : fm_up σ k j v a b = σ a b := by simp [fm_up, h]
theorem fm_up_nj {σ : fm_Mem} {k j a b : Nat} {v : Int} (h : b ≠ j) : fm_up σ k j v a b = σ a b := by simp [fm_up, h]
theorem fm_up_eq {σ : fm_Mem} {k j : Nat} {v : Int} : fm_up σ k j v k j = v := by simp [fm_up]
/-- bounds of a FilmWhole's cells -/
def cw (σ : fm_Mem) : Prop := (0 ≤ σ 0 1 ∧ σ 0 1 ≤ 6) ∧ (∀ c, c < 6 → 0 ≤ σ (27 + c) 3 ∧ σ (27 + c) 3 ≤ 40) ∧ (0 ≤ σ 2 2 ∧ σ 2 2 ≤ 40) ∧ (∀ c, c < 6 → ∀ i, i < 40 → (0 ≤ σ (33 + c) i ∧ σ (33 + c) i ≤ 63) ∧ (0 ≤ σ (39 + c) i ∧ σ (39 + c) i ≤ 9) ∧ (0 ≤ σ (45 + c) i ∧ σ (45 + c) i ≤ 1)) ∧ (∀ i, i < 40 → (0 ≤ σ 3 i ∧ σ 3 i ≤ 63) ∧ (0 ≤ σ 4 i ∧ σ 4 i ≤ 5)) ∧ (∀ i, i < 4 → 0 ≤ σ 5 i ∧ σ 5 i ≤ 100) ∧ σ 5 0 ≤ 5
set_option maxRecDepth 20000 in
set_option maxHeartbeats 4000000 in
theorem k_X8_isWithin {ω : fm_O} {σ : fm_Mem} {v top : Int} (rv : fm_R v) (rtop : fm_R top) : fm_Met kc ω yX8_isWithin cX8_isWithin 2 (some .boolean) (fm_rm 0) [fm_I v, fm_I top] σ (fm_pI fun z σ' => ((0 ≤ v ∧ v ≤ top) ∧ z = 1 ∨ ¬ (0 ≤ v ∧ v ≤ top) ∧ z = 0) ∧ σ = σ') := by
  refine fm_start (by decide) rfl (Nat.le_of_ble_eq_true rfl) [some (fm_I v), some (fm_I top)] rfl (fun Γ => ?_)
  refine fm_ild0 dX8_isWithin_0 ?_
  refine fm_if_lt (⟨by omega, by omega⟩) 13 dX8_isWithin_1 (by decide) (fun h1 => ?_) (fun h1 => ?_)
  · refine fm_iconst dX8_isWithin_13 ?_
    exact fm_zretI dX8_isWithin_14 rfl (by omega) ⟨by omega, rfl⟩
  · refine fm_ild0 dX8_isWithin_4 ?_
    refine fm_ild1 dX8_isWithin_5 ?_
    refine fm_icmp_gt (⟨by omega, by omega⟩) (⟨by omega, by omega⟩) 13 dX8_isWithin_6 (by decide) (fun h6 => ?_) (fun h6 => ?_)
    · refine fm_iconst dX8_isWithin_13 ?_
      exact fm_zretI dX8_isWithin_14 rfl (by omega) ⟨by omega, rfl⟩
    · refine fm_iconst dX8_isWithin_9 ?_
      refine fm_goto 14 dX8_isWithin_10 (by decide) ?_
      exact fm_zretI dX8_isWithin_14 rfl (by omega) ⟨by omega, rfl⟩
set_option maxRecDepth 20000 in
set_option maxHeartbeats 4000000 in
theorem k_X8_isCopy {ω : fm_O} {σ : fm_Mem} {c : Int} (rc : fm_R c) (h : cw σ) : fm_Met kc ω yX8_isCopy cX8_isCopy 2 (some .boolean) (fm_rm 0) [fm_r ω 0, fm_I c] σ (fm_pI fun z σ' => ((0 ≤ c ∧ c < σ 0 1) ∧ z = 1 ∨ ¬ (0 ≤ c ∧ c < σ 0 1) ∧ z = 0) ∧ σ = σ') := by
  refine fm_start (by decide) rfl (Nat.le_of_ble_eq_true rfl) [some (fm_r ω 0), some (fm_I c)] rfl (fun Γ => ?_)
  have h1 := h.1
  refine fm_ild1 dX8_isCopy_0 ?_
  refine fm_if_lt (⟨by omega, by omega⟩) 16 dX8_isCopy_1 (by decide) (fun h1 => ?_) (fun h1 => ?_)
  · refine fm_iconst dX8_isCopy_16 ?_
    exact fm_zretI dX8_isCopy_17 rfl (by omega) ⟨by omega, rfl⟩
  · refine fm_ild1 dX8_isCopy_4 ?_
    refine fm_ald0 dX8_isCopy_5 ?_
    refine gi_7_1 dX8_isCopy_6 fd_X8_64 ?_
    refine fm_icmp_ge (⟨by omega, by omega⟩) (⟨by omega, by omega⟩) 16 dX8_isCopy_9 (by decide) (fun h9 => ?_) (fun h9 => ?_)
    · refine fm_iconst dX8_isCopy_16 ?_
      exact fm_zretI dX8_isCopy_17 rfl (by omega) ⟨by omega, rfl⟩
    · refine fm_iconst dX8_isCopy_12 ?_
      refine fm_goto 17 dX8_isCopy_13 (by decide) ?_
      exact fm_zretI dX8_isCopy_17 rfl (by omega) ⟨by omega, rfl⟩
set_option maxRecDepth 20000 in
set_option maxHeartbeats 4000000 in
theorem k_X8_isFrame {ω : fm_O} {σ : fm_Mem} {c i : Int} (rc : fm_R c) (ri : fm_R i) (h : cw σ) : fm_Met kc ω yX8_isFrame cX8_isFrame 3 (some .boolean) (fm_rm 1) [fm_r ω 0, fm_I c, fm_I i] σ (fm_pI fun z σ' => ((0 ≤ c ∧ c < σ 0 1 ∧ 0 ≤ i ∧ i < σ (27 + c.toNat) 3) ∧ z = 1 ∨ ¬ (0 ≤ c ∧ c < σ 0 1 ∧ 0 ≤ i ∧ i < σ (27 + c.toNat) 3) ∧ z = 0) ∧ σ = σ') := by
  refine fm_start (by decide) rfl (Nat.le_of_ble_eq_true rfl) [some (fm_r ω 0), some (fm_I c), some (fm_I i)] rfl (fun Γ => ?_)
  have h1 := h.1
  refine fm_ald0 dX8_isFrame_0 ?_
  refine fm_ild1 dX8_isFrame_1 ?_
  refine fm_cvI dX8_isFrame_2 cl_X8_68 (k_X8_isCopy ⟨by omega, by omega⟩ h) ob_0 rfl rfl (by decide) rfl rfl (Nat.le_of_ble_eq_true rfl) (fun z2 s2 q2 => ?_)
  obtain ⟨q2, rfl⟩ := q2
  refine fm_if_eq (⟨by omega, by omega⟩) 29 dX8_isFrame_5 (by decide) (fun h5 => ?_) (fun h5 => ?_)
  · refine fm_iconst dX8_isFrame_29 ?_
    exact fm_zretI dX8_isFrame_30 rfl (by omega) ⟨by omega, rfl⟩
  · refine fm_ild2 dX8_isFrame_8 ?_
    refine fm_if_lt (⟨by omega, by omega⟩) 29 dX8_isFrame_9 (by decide) (fun h9 => ?_) (fun h9 => ?_)
    · refine fm_iconst dX8_isFrame_29 ?_
      exact fm_zretI dX8_isFrame_30 rfl (by omega) ⟨by omega, rfl⟩
    · refine fm_ild2 dX8_isFrame_12 ?_
      refine fm_ald0 dX8_isFrame_13 ?_
      refine gr_7_0 dX8_isFrame_14 fd_X8_11 ?_
      refine fm_ild1 dX8_isFrame_17 ?_
      have hs := h.2.1 c.toNat (by omega)
      refine ar_1 (by omega) (by omega) dX8_isFrame_18 ?_
      refine gi_3_3 (by omega) dX8_isFrame_19 fd_X8_83 ?_
      refine fm_icmp_ge (⟨by omega, by omega⟩) (⟨by omega, by omega⟩) 29 dX8_isFrame_22 (by decide) (fun h22 => ?_) (fun h22 => ?_)
      · refine fm_iconst dX8_isFrame_29 ?_
        exact fm_zretI dX8_isFrame_30 rfl (by omega) ⟨by omega, rfl⟩
      · refine fm_iconst dX8_isFrame_25 ?_
        refine fm_goto 30 dX8_isFrame_26 (by decide) ?_
        exact fm_zretI dX8_isFrame_30 rfl (by omega) ⟨by omega, rfl⟩
set_option maxRecDepth 20000 in
set_option maxHeartbeats 4000000 in
theorem k_X8_isRow {ω : fm_O} {σ : fm_Mem} {c : Int} (rc : fm_R c) (h : cw σ) : fm_Met kc ω yX8_isRow cX8_isRow 2 (some .boolean) (fm_rm 1) [fm_r ω 0, fm_I c] σ (fm_pI fun z σ' => ((c = -1 ∨ (0 ≤ c ∧ c < σ 0 1)) ∧ z = 1 ∨ ¬ (c = -1 ∨ (0 ≤ c ∧ c < σ 0 1)) ∧ z = 0) ∧ σ = σ') := by
  refine fm_start (by decide) rfl (Nat.le_of_ble_eq_true rfl) [some (fm_r ω 0), some (fm_I c)] rfl (fun Γ => ?_)
  have h1 := h.1
  refine fm_ild1 dX8_isRow_0 ?_
  refine fm_iconst dX8_isRow_1 ?_
  refine fm_icmp_eq (⟨by omega, by omega⟩) (⟨by omega, by omega⟩) 13 dX8_isRow_2 (by decide) (fun h2 => ?_) (fun h2 => ?_)
  · refine fm_iconst dX8_isRow_13 ?_
    refine fm_goto 18 dX8_isRow_14 (by decide) ?_
    exact fm_zretI dX8_isRow_18 rfl (by omega) ⟨by omega, rfl⟩
  · refine fm_ald0 dX8_isRow_5 ?_
    refine fm_ild1 dX8_isRow_6 ?_
    refine fm_cvI dX8_isRow_7 cl_X8_68 (k_X8_isCopy ⟨by omega, by omega⟩ h) ob_0 rfl rfl (by decide) rfl rfl (Nat.le_of_ble_eq_true rfl) (fun z7 s7 q7 => ?_)
    obtain ⟨q7, rfl⟩ := q7
    refine fm_if_eq (⟨by omega, by omega⟩) 17 dX8_isRow_10 (by decide) (fun h10 => ?_) (fun h10 => ?_)
    · refine fm_iconst dX8_isRow_17 ?_
      exact fm_zretI dX8_isRow_18 rfl (by omega) ⟨by omega, rfl⟩
    · refine fm_iconst dX8_isRow_13 ?_
      refine fm_goto 18 dX8_isRow_14 (by decide) ?_
      exact fm_zretI dX8_isRow_18 rfl (by omega) ⟨by omega, rfl⟩
set_option maxRecDepth 20000 in
set_option maxHeartbeats 4000000 in
theorem k_X8_sizeOfRow {ω : fm_O} {σ : fm_Mem} {c : Int} (hc : c = -1 ∨ (0 ≤ c ∧ c < 6)) : fm_Met kc ω yX8_sizeOfRow cX8_sizeOfRow 2 (some .int) (fm_rm 0) [fm_r ω 0, fm_I c] σ (fm_pI fun z σ' => z = (if c = -1 then σ 2 2 else σ (27 + c.toNat) 3) ∧ σ = σ') := by
  refine fm_start (by decide) rfl (Nat.le_of_ble_eq_true rfl) [some (fm_r ω 0), some (fm_I c)] rfl (fun Γ => ?_)
  refine fm_ild1 dX8_sizeOfRow_0 ?_
  refine fm_iconst dX8_sizeOfRow_1 ?_
  refine fm_icmp_ne (⟨by omega, by omega⟩) (⟨by omega, by omega⟩) 15 dX8_sizeOfRow_2 (by decide) (fun h2 => ?_) (fun h2 => ?_)
  · refine fm_ald0 dX8_sizeOfRow_15 ?_
    refine gr_7_0 dX8_sizeOfRow_16 fd_X8_11 ?_
    refine fm_ild1 dX8_sizeOfRow_19 ?_
    refine ar_1 (by omega) (by omega) dX8_sizeOfRow_20 ?_
    refine gi_3_3 (by omega) dX8_sizeOfRow_21 fd_X8_83 ?_
    first | exact fm_iretI dX8_sizeOfRow_24 rfl ⟨by rw [if_pos h2], rfl⟩ | exact fm_iretI dX8_sizeOfRow_24 rfl ⟨by rw [if_neg h2], rfl⟩
  · refine fm_ald0 dX8_sizeOfRow_5 ?_
    refine gr_7_2 dX8_sizeOfRow_6 fd_X8_18 ?_
    refine gi_4_2 dX8_sizeOfRow_9 fd_X8_121 ?_
    refine fm_goto 24 dX8_sizeOfRow_12 (by decide) ?_
    first | exact fm_iretI dX8_sizeOfRow_24 rfl ⟨by rw [if_pos h2], rfl⟩ | exact fm_iretI dX8_sizeOfRow_24 rfl ⟨by rw [if_neg h2], rfl⟩
set_option maxRecDepth 20000 in
set_option maxHeartbeats 4000000 in
theorem k_X8_marksOfRow {ω : fm_O} {σ : fm_Mem} {c : Int} (hc : c = -1 ∨ (0 ≤ c ∧ c < 6)) : fm_Met kc ω yX8_marksOfRow cX8_marksOfRow 2 (some (.array .int)) (fm_rm 0) [fm_r ω 0, fm_I c] σ (fm_pR ω fun k σ' => k = (if c = -1 then 3 else 33 + c.toNat) ∧ σ = σ') := by
  refine fm_start (by decide) rfl (Nat.le_of_ble_eq_true rfl) [some (fm_r ω 0), some (fm_I c)] rfl (fun Γ => ?_)
  refine fm_ild1 dX8_marksOfRow_0 ?_
  refine fm_iconst dX8_marksOfRow_1 ?_
  refine fm_icmp_ne (⟨by omega, by omega⟩) (⟨by omega, by omega⟩) 15 dX8_marksOfRow_2 (by decide) (fun h2 => ?_) (fun h2 => ?_)
  · refine fm_ald0 dX8_marksOfRow_15 ?_
    refine gr_7_0 dX8_marksOfRow_16 fd_X8_11 ?_
    refine fm_ild1 dX8_marksOfRow_19 ?_
    refine ar_1 (by omega) (by omega) dX8_marksOfRow_20 ?_
    refine gr_3_0 (by omega) dX8_marksOfRow_21 fd_X8_109 ?_
    first | exact fm_aretR dX8_marksOfRow_24 rfl ⟨by rw [if_pos h2], rfl⟩ | exact fm_aretR dX8_marksOfRow_24 rfl ⟨by rw [if_neg h2], rfl⟩
  · refine fm_ald0 dX8_marksOfRow_5 ?_
    refine gr_7_2 dX8_marksOfRow_6 fd_X8_18 ?_
    refine gr_4_0 dX8_marksOfRow_9 fd_X8_221 ?_
    refine fm_goto 24 dX8_marksOfRow_12 (by decide) ?_
    first | exact fm_aretR dX8_marksOfRow_24 rfl ⟨by rw [if_pos h2], rfl⟩ | exact fm_aretR dX8_marksOfRow_24 rfl ⟨by rw [if_neg h2], rfl⟩
set_option maxRecDepth 20000 in
set_option maxHeartbeats 4000000 in
theorem k_X3_hasRoomFor {ω : fm_O} {σ : fm_Mem} {c : Nat} {n : Int} (hc : c < 6) (h : cw σ) (hn : 0 ≤ n ∧ n ≤ 100) : fm_Met kc ω yX3_hasRoomFor cX3_hasRoomFor 2 (some .boolean) (fm_rm 0) [fm_r ω (27 + c), fm_I n] σ (fm_pI fun z σ' => ((σ (27 + c) 3 + n ≤ 40) ∧ z = 1 ∨ ¬ (σ (27 + c) 3 + n ≤ 40) ∧ z = 0) ∧ σ = σ') := by
  refine fm_start (by decide) rfl (Nat.le_of_ble_eq_true rfl) [some (fm_r ω (27 + c)), some (fm_I n)] rfl (fun Γ => ?_)
  have h1 := h.2.1 c hc
  refine fm_ald0 dX3_hasRoomFor_0 ?_
  refine gi_3_3 (by omega) dX3_hasRoomFor_1 fd_X3_21 ?_
  refine fm_ild1 dX3_hasRoomFor_4 ?_
  refine fm_iadd dX3_hasRoomFor_5 ?_
  refine fm_bipush (by decide) dX3_hasRoomFor_6 ?_
  refine fm_icmp_gt (⟨by omega, by omega⟩) (⟨by omega, by omega⟩) 15 dX3_hasRoomFor_8 (by decide) (fun h8 => ?_) (fun h8 => ?_)
  · refine fm_iconst dX3_hasRoomFor_15 ?_
    exact fm_zretI dX3_hasRoomFor_16 rfl (by omega) ⟨by omega, rfl⟩
  · refine fm_iconst dX3_hasRoomFor_11 ?_
    refine fm_goto 16 dX3_hasRoomFor_12 (by decide) ?_
    exact fm_zretI dX3_hasRoomFor_16 rfl (by omega) ⟨by omega, rfl⟩
set_option maxRecDepth 20000 in
set_option maxHeartbeats 4000000 in
theorem k_X3_append {ω : fm_O} {σ : fm_Mem} {c : Nat} {m v cam : Int} (hc : c < 6) (h0 : 0 ≤ σ (27 + c) 3) (h1 : σ (27 + c) 3 < 40) : fm_Met kc ω yX3_append cX3_append 4 none (fm_rm 0) [fm_r ω (27 + c), fm_I m, fm_I v, fm_I cam] σ (fm_pN fun σ' => σ' = fm_up (fm_up (fm_up (fm_up σ (33 + c) (σ (27 + c) 3).toNat m) (39 + c) (σ (27 + c) 3).toNat v) (45 + c) (σ (27 + c) 3).toNat cam) (27 + c) 3 (σ (27 + c) 3 + 1)) := by
  refine fm_start (by decide) rfl (Nat.le_of_ble_eq_true rfl) [some (fm_r ω (27 + c)), some (fm_I m), some (fm_I v), some (fm_I cam)] rfl (fun Γ => ?_)
  refine fm_ald0 dX3_append_0 ?_
  refine gr_3_0 (by omega) dX3_append_1 fd_X3_9 ?_
  refine fm_ald0 dX3_append_4 ?_
  refine gi_3_3 (by omega) dX3_append_5 fd_X3_21 ?_
  try simp (disch := omega) only [fm_up_ne, fm_up_nj, fm_up_eq]
  refine fm_ild1 dX3_append_8 ?_
  refine fm_iast dX3_append_9 (ia_rm (by omega)) (by omega) (by omega) ?_
  refine fm_ald0 dX3_append_10 ?_
  refine gr_3_1 (by omega) dX3_append_11 fd_X3_15 ?_
  refine fm_ald0 dX3_append_14 ?_
  refine gi_3_3 (by omega) dX3_append_15 fd_X3_21 ?_
  try simp (disch := omega) only [fm_up_ne, fm_up_nj, fm_up_eq]
  refine fm_ild2 dX3_append_18 ?_
  refine fm_iast dX3_append_19 (ia_rw (by omega)) (by omega) (by omega) ?_
  refine fm_ald0 dX3_append_20 ?_
  refine gr_3_2 (by omega) dX3_append_21 fd_X3_18 ?_
  refine fm_ald0 dX3_append_24 ?_
  refine gi_3_3 (by omega) dX3_append_25 fd_X3_21 ?_
  try simp (disch := omega) only [fm_up_ne, fm_up_nj, fm_up_eq]
  refine fm_ild3 dX3_append_28 ?_
  refine fm_iast dX3_append_29 (ia_rc (by omega)) (by omega) (by omega) ?_
  refine fm_ald0 dX3_append_30 ?_
  refine fm_dupR dX3_append_31 ?_
  refine gi_3_3 (by omega) dX3_append_32 fd_X3_21 ?_
  try simp (disch := omega) only [fm_up_ne, fm_up_nj, fm_up_eq]
  refine fm_iconst dX3_append_35 ?_
  refine fm_iadd dX3_append_36 ?_
  refine pf_3_3 (by omega) dX3_append_37 fd_X3_21 ?_
  exact fm_vretN dX3_append_40 rfl rfl
set_option maxRecDepth 20000 in
set_option maxHeartbeats 4000000 in
theorem k_X4_has {ω : fm_O} {σ : fm_Mem} {p : Int} (rp : fm_R p) (h : cw σ) : fm_Met kc ω yX4_has cX4_has 2 (some .boolean) (fm_rm 0) [fm_r ω 2, fm_I p] σ (fm_pI fun z σ' => ((0 ≤ p ∧ p < σ 2 2) ∧ z = 1 ∨ ¬ (0 ≤ p ∧ p < σ 2 2) ∧ z = 0) ∧ σ = σ') := by
  refine fm_start (by decide) rfl (Nat.le_of_ble_eq_true rfl) [some (fm_r ω 2), some (fm_I p)] rfl (fun Γ => ?_)
  have h1 := h.2.2.1
  refine fm_ild1 dX4_has_0 ?_
  refine fm_if_lt (⟨by omega, by omega⟩) 16 dX4_has_1 (by decide) (fun h1 => ?_) (fun h1 => ?_)
  · refine fm_iconst dX4_has_16 ?_
    exact fm_zretI dX4_has_17 rfl (by omega) ⟨by omega, rfl⟩
  · refine fm_ild1 dX4_has_4 ?_
    refine fm_ald0 dX4_has_5 ?_
    refine gi_4_2 dX4_has_6 fd_X4_18 ?_
    refine fm_icmp_ge (⟨by omega, by omega⟩) (⟨by omega, by omega⟩) 16 dX4_has_9 (by decide) (fun h9 => ?_) (fun h9 => ?_)
    · refine fm_iconst dX4_has_16 ?_
      exact fm_zretI dX4_has_17 rfl (by omega) ⟨by omega, rfl⟩
    · refine fm_iconst dX4_has_12 ?_
      refine fm_goto 17 dX4_has_13 (by decide) ?_
      exact fm_zretI dX4_has_17 rfl (by omega) ⟨by omega, rfl⟩
set_option maxRecDepth 20000 in
set_option maxHeartbeats 4000000 in
theorem k_X4_append {ω : fm_O} {σ : fm_Mem} {m v : Int} (h0 : 0 ≤ σ 2 2) (h1 : σ 2 2 < 40) : fm_Met kc ω yX4_append cX4_append 3 none (fm_rm 0) [fm_r ω 2, fm_I m, fm_I v] σ (fm_pN fun σ' => σ' = fm_up (fm_up (fm_up σ 3 (σ 2 2).toNat m) 4 (σ 2 2).toNat v) 2 2 (σ 2 2 + 1)) := by
  refine fm_start (by decide) rfl (Nat.le_of_ble_eq_true rfl) [some (fm_r ω 2), some (fm_I m), some (fm_I v)] rfl (fun Γ => ?_)
  refine fm_ald0 dX4_append_0 ?_
  refine gr_4_0 dX4_append_1 fd_X4_9 ?_
  refine fm_ald0 dX4_append_4 ?_
  refine gi_4_2 dX4_append_5 fd_X4_18 ?_
  try simp (disch := omega) only [fm_up_ne, fm_up_nj, fm_up_eq]
  refine fm_ild1 dX4_append_8 ?_
  refine fm_iast dX4_append_9 ia_3 (by omega) (by omega) ?_
  refine fm_ald0 dX4_append_10 ?_
  refine gr_4_1 dX4_append_11 fd_X4_15 ?_
  refine fm_ald0 dX4_append_14 ?_
  refine gi_4_2 dX4_append_15 fd_X4_18 ?_
  try simp (disch := omega) only [fm_up_ne, fm_up_nj, fm_up_eq]
  refine fm_ild2 dX4_append_18 ?_
  refine fm_iast dX4_append_19 ia_4 (by omega) (by omega) ?_
  refine fm_ald0 dX4_append_20 ?_
  refine fm_dupR dX4_append_21 ?_
  refine gi_4_2 dX4_append_22 fd_X4_18 ?_
  try simp (disch := omega) only [fm_up_ne, fm_up_nj, fm_up_eq]
  refine fm_iconst dX4_append_25 ?_
  refine fm_iadd dX4_append_26 ?_
  refine pf_4_2 dX4_append_27 fd_X4_18 ?_
  exact fm_vretN dX4_append_30 rfl rfl
set_option maxRecDepth 20000 in
set_option maxHeartbeats 4000000 in
theorem k_X2_append {ω : fm_O} {σ : fm_Mem} {c a b t : Int} (h0 : 0 ≤ σ 13 4) (h1 : σ 13 4 < 12) : fm_Met kc ω yX2_append cX2_append 5 none (fm_rm 0) [fm_r ω 13, fm_I c, fm_I a, fm_I b, fm_I t] σ (fm_pN fun σ' => σ' = fm_up (fm_up (fm_up (fm_up (fm_up σ 14 (σ 13 4).toNat c) 15 (σ 13 4).toNat a) 16 (σ 13 4).toNat b) 17 (σ 13 4).toNat t) 13 4 (σ 13 4 + 1)) := by
  refine fm_start (by decide) rfl (Nat.le_of_ble_eq_true rfl) [some (fm_r ω 13), some (fm_I c), some (fm_I a), some (fm_I b), some (fm_I t)] rfl (fun Γ => ?_)
  refine fm_ald0 dX2_append_0 ?_
  refine gr_2_0 dX2_append_1 fd_X2_9 ?_
  refine fm_ald0 dX2_append_4 ?_
  refine gi_2_4 dX2_append_5 fd_X2_24 ?_
  try simp (disch := omega) only [fm_up_ne, fm_up_nj, fm_up_eq]
  refine fm_ild1 dX2_append_8 ?_
  refine fm_iast dX2_append_9 ia_14 (by omega) (by omega) ?_
  refine fm_ald0 dX2_append_10 ?_
  refine gr_2_1 dX2_append_11 fd_X2_15 ?_
  refine fm_ald0 dX2_append_14 ?_
  refine gi_2_4 dX2_append_15 fd_X2_24 ?_
  try simp (disch := omega) only [fm_up_ne, fm_up_nj, fm_up_eq]
  refine fm_ild2 dX2_append_18 ?_
  refine fm_iast dX2_append_19 ia_15 (by omega) (by omega) ?_
  refine fm_ald0 dX2_append_20 ?_
  refine gr_2_2 dX2_append_21 fd_X2_18 ?_
  refine fm_ald0 dX2_append_24 ?_
  refine gi_2_4 dX2_append_25 fd_X2_24 ?_
  try simp (disch := omega) only [fm_up_ne, fm_up_nj, fm_up_eq]
  refine fm_ild3 dX2_append_28 ?_
  refine fm_iast dX2_append_29 ia_16 (by omega) (by omega) ?_
  refine fm_ald0 dX2_append_30 ?_
  refine gr_2_3 dX2_append_31 fd_X2_21 ?_
  refine fm_ald0 dX2_append_34 ?_
  refine gi_2_4 dX2_append_35 fd_X2_24 ?_
  try simp (disch := omega) only [fm_up_ne, fm_up_nj, fm_up_eq]
  refine fm_ild4 dX2_append_38 ?_
  refine fm_iast dX2_append_40 ia_17 (by omega) (by omega) ?_
  refine fm_ald0 dX2_append_41 ?_
  refine fm_dupR dX2_append_42 ?_
  refine gi_2_4 dX2_append_43 fd_X2_24 ?_
  try simp (disch := omega) only [fm_up_ne, fm_up_nj, fm_up_eq]
  refine fm_iconst dX2_append_46 ?_
  refine fm_iadd dX2_append_47 ?_
  refine pf_2_4 dX2_append_48 fd_X2_24 ?_
  exact fm_vretN dX2_append_51 rfl rfl
set_option maxRecDepth 20000 in
set_option maxHeartbeats 4000000 in
theorem k_X0_append {ω : fm_O} {σ : fm_Mem} {a b v : Int} (ha : 0 ≤ a ∧ a < 6) (hb : 0 ≤ b ∧ b < 6) : fm_Met kc ω yX0_append cX0_append 4 none (fm_rm 0) [fm_r ω 18, fm_I a, fm_I b, fm_I v] σ (fm_pN fun σ' => σ' = fm_up (fm_up σ (51 + a.toNat) b.toNat (σ (51 + a.toNat) b.toNat + v)) 18 4 (σ 18 4 + 1)) := by
  refine fm_start (by decide) rfl (Nat.le_of_ble_eq_true rfl) [some (fm_r ω 18), some (fm_I a), some (fm_I b), some (fm_I v)] rfl (fun Γ => ?_)
  refine fm_ald0 dX0_append_0 ?_
  refine gr_0_0 dX0_append_1 fd_X0_11 ?_
  refine fm_ild1 dX0_append_4 ?_
  refine ar_19 (by omega) (by omega) dX0_append_5 ?_
  refine fm_ild2 dX0_append_6 ?_
  refine fm_dup2 dX0_append_7 ?_
  refine fm_iald dX0_append_8 (ia_wt (by omega)) (by omega) (by omega) ?_
  try simp (disch := omega) only [fm_up_ne, fm_up_nj, fm_up_eq]
  refine fm_ild3 dX0_append_9 ?_
  refine fm_iadd dX0_append_10 ?_
  refine fm_iast dX0_append_11 (ia_wt (by omega)) (by omega) (by omega) ?_
  refine fm_ald0 dX0_append_12 ?_
  refine fm_dupR dX0_append_13 ?_
  refine gi_0_4 dX0_append_14 fd_X0_26 ?_
  try simp (disch := omega) only [fm_up_ne, fm_up_nj, fm_up_eq]
  refine fm_iconst dX0_append_17 ?_
  refine fm_iadd dX0_append_18 ?_
  refine pf_0_4 dX0_append_19 fd_X0_26 ?_
  exact fm_vretN dX0_append_22 rfl rfl
set_option maxRecDepth 20000 in
set_option maxHeartbeats 4000000 in
theorem k_X0_quarrel {ω : fm_O} {σ : fm_Mem}  : fm_Met kc ω yX0_quarrel cX0_quarrel 1 (some .int) (fm_rm 0) [fm_r ω 18] σ (fm_pI fun z σ' => z = σ 20 0 ∧ σ = σ') := by
  refine fm_start (by decide) rfl (Nat.le_of_ble_eq_true rfl) [some (fm_r ω 18)] rfl (fun Γ => ?_)
  refine fm_ald0 dX0_quarrel_0 ?_
  refine gr_0_1 dX0_quarrel_1 fd_X0_16 ?_
  refine fm_iconst dX0_quarrel_4 ?_
  refine fm_iald dX0_quarrel_5 ia_20 (by omega) (by omega) ?_
  exact fm_iretI dX0_quarrel_6 rfl ⟨rfl, rfl⟩
set_option maxRecDepth 20000 in
set_option maxHeartbeats 4000000 in
theorem k_X0_rivals {ω : fm_O} {σ : fm_Mem}  : fm_Met kc ω yX0_rivals cX0_rivals 1 (some .int) (fm_rm 0) [fm_r ω 18] σ (fm_pI fun z σ' => z = σ 21 0 ∧ σ = σ') := by
  refine fm_start (by decide) rfl (Nat.le_of_ble_eq_true rfl) [some (fm_r ω 18)] rfl (fun Γ => ?_)
  refine fm_ald0 dX0_rivals_0 ?_
  refine gr_0_2 dX0_rivals_1 fd_X0_20 ?_
  refine fm_iconst dX0_rivals_4 ?_
  refine fm_iald dX0_rivals_5 ia_21 (by omega) (by omega) ?_
  exact fm_iretI dX0_rivals_6 rfl ⟨rfl, rfl⟩
set_option maxRecDepth 20000 in
set_option maxHeartbeats 4000000 in
theorem k_X1_cost {ω : fm_O} {σ : fm_Mem}  : fm_Met kc ω yX1_cost cX1_cost 1 (some .int) (fm_rm 0) [fm_r ω 6] σ (fm_pI fun z σ' => z = σ 63 0 ∧ σ = σ') := by
  refine fm_start (by decide) rfl (Nat.le_of_ble_eq_true rfl) [some (fm_r ω 6)] rfl (fun Γ => ?_)
  refine fm_ald0 dX1_cost_0 ?_
  refine gr_1_0 dX1_cost_1 fd_X1_11 ?_
  refine fm_iconst dX1_cost_4 ?_
  refine ar_7 (by omega) (by omega) dX1_cost_5 ?_
  refine fm_iconst dX1_cost_6 ?_
  refine fm_iald dX1_cost_7 (ia_ll (by omega)) (by omega) (by omega) ?_
  exact fm_iretI dX1_cost_8 rfl ⟨rfl, rfl⟩
def pcost (x y : Int) : Int := min 5 (if x - y < 0 then -(x - y) else x - y)
theorem pcost_b (x y : Int) : 0 ≤ pcost x y ∧ pcost x y ≤ 5 := by unfold pcost; split <;> omega
set_option maxRecDepth 20000 in
set_option maxHeartbeats 4000000 in
theorem k_X1_pairCost {ω : fm_O} {σ : fm_Mem} {x y : Int} (hx : 0 ≤ x ∧ x ≤ 63) (hy : 0 ≤ y ∧ y ≤ 63) : fm_Met kc ω yX1_pairCost cX1_pairCost 2 (some .int) (fm_rm 1) [fm_I x, fm_I y] σ (fm_pI fun z σ' => z = pcost x y ∧ σ = σ') := by
  refine fm_start (by decide) rfl (Nat.le_of_ble_eq_true rfl) [some (fm_I x), some (fm_I y)] rfl (fun Γ => ?_)
  refine fm_iconst dX1_pairCost_0 ?_
  refine fm_ild0 dX1_pairCost_1 ?_
  refine fm_ild1 dX1_pairCost_2 ?_
  refine fm_isub dX1_pairCost_3 ?_
  refine fm_abs dX1_pairCost_4 cl_X1_41 (by decide) (Nat.le_of_ble_eq_true rfl) (⟨by omega, by omega⟩) ?_
  refine fm_min dX1_pairCost_7 cl_X1_32 (by decide) (Nat.le_of_ble_eq_true rfl) (⟨by omega, by omega⟩) (by constructor <;> split <;> omega) ?_
  exact fm_iretI dX1_pairCost_10 rfl ⟨rfl, rfl⟩
end
section
def fm_mv (σ : fm_Mem) (k sp dp n : Nat) : fm_Mem := fun a b => if a = k ∧ dp ≤ b ∧ b < dp + n then σ k (sp + (b - dp)) else σ a b
theorem fm_e_ne {S : fm_Sh} {ct : Nat → ClassId} {ad : Nat → Nat} {σ σ' : fm_Mem} {i : Nat} (h : ∀ b, σ' i b = σ i b) : fm_e S ct ad σ' i = fm_e S ct ad σ i := by
  unfold fm_e
  cases S.2.1 i with
  | inl n => simp [h]
  | inr x =>
    cases x with
    | inl y => rfl
    | inr c => simp [h]
section FMX
variable {S : fm_Sh} {ω : fm_O} {Γ : fm_G} {M : fm_M} {P : Option Value → fm_Mem → Prop} {σ : fm_Mem} {pc : Nat} {L : List (Option Value)} {st : List Value}
theorem fm_acopy {idx k n0 : Nat} {sp dp n : Int} (hd : decode M.1 pc = .ok (.invokestatic idx, 3)) (c1 : Cond.methodLink M.2.1 idx arraycopyName ∈ fm_T) (c2 : Cond.native arraycopyName ∈ fm_T) (c3 : Cond.static arraycopyName ∈ fm_T) (c4 : Cond.initialized "java/lang/System" ∈ fm_T) (ha : fm_ia S k n0) (h1 : 0 ≤ sp) (h2 : 0 ≤ dp) (h3 : 0 ≤ n) (h4 : sp + n ≤ n0) (h5 : dp + n ≤ n0) (hf : 1 ≤ M.2.2.1.frames) (hR : (st.map fun v => v.category).sum + (nativeFrameWords "java/lang/System" "arraycopy" 5 + 11) ≤ M.2.2.1.locals)
    (kk : fm_W S ω Γ M P (fm_mv σ k sp.toNat dp.toNat n.toNat) (pc + 3) L st) : fm_W S ω Γ M P σ pc L (fm_I n :: fm_I dp :: fm_r ω k :: fm_I sp :: fm_r ω k :: st) := by
  intro C hL H locs ls hP hS hl
  obtain ⟨hx, hb, hml, hown, hts, hr, hlk, hK, hD⟩ := id C
  have he := fm_ws_at (S := S) (ct := ω.2.2.1) (ad := ω.2.2.2) (σ := σ) ha.1
  rw [fm_e_ia ha] at he
  have hn := ha.2.2
  have z : ∀ {x : Int}, 0 ≤ x → x < 2147483648 → ¬ Int32.ofInt x < 0 := fun {x} h h2 => by rw [fm_nat h h2]; exact nI_pos (by omega)
  have s1 := fm_clamp h1 (show sp < 2147483648 by omega)
  have s2 := fm_clamp h2 (show dp < 2147483648 by omega)
  have s3 := fm_clamp h3 (show n < 2147483648 by omega)
  refine va_copyi hx hb (hml.trans (hL.symm.trans hl.1.symm)) hown (hts _ c1) (hts _ c2) (hts _ c3) (hts _ c4) hK hP (fm_D hD (fun k hk => ⟨k, hk, rfl⟩)) hS k k 0 0 (ty := .int) he he rfl rfl rfl (z h1 (by omega)) (z h2 (by omega)) (z h3 (by omega)) (by rw [s1, s3]; omega) (by rw [s2, s3]; omega) (fun i hi => rfl) hf hR hd (fun H1 locs1 hP1 hD1 hS1 => ?_)
  refine kk C hL H1 locs1 ls ?_ hS1 hl
  rw [s1, s2, s3] at hP1
  rw [fm_ws_set (σ' := fm_mv σ k sp.toNat dp.toNat n.toNat) ha.1 ?_ (fun i hi => fm_e_ne (fun b => by simp [fm_mv, hi]))] at hP1
  · exact hP1
  · rw [fm_e_ia ha]
    congr 4
    funext j
    simp only [va_cpy, fm_mv]
    by_cases hj : dp.toNat ≤ j ∧ j < dp.toNat + n.toNat
    · rw [if_pos hj, if_pos ⟨trivial, hj⟩]
    · rw [if_neg hj, if_neg (fun q => hj q.2)]
theorem fm_alen {k n : Nat} (hd : decode M.1 pc = .ok (.arraylength, 1)) (ha : fm_ia S k n) (kk : fm_W S ω Γ M P σ (pc + 1) L (fm_I (n : Int) :: st)) : fm_W S ω Γ M P σ pc L (fm_r ω k :: st) := by
  intro C hL H locs ls hP hS hl
  obtain ⟨hx, hb, hml, hown, hts, hr, hlk, hK, hD⟩ := id C
  have he := fm_ws_at (S := S) (ct := ω.2.2.1) (ad := ω.2.2.2) (σ := σ) ha.1
  rw [fm_e_ia ha] at he
  have hn := ha.2.2
  exact va_alen hx hb hK hP k 0 he (ty := .int) rfl (v := Int32.ofInt (n : Int)) (by show Int32.ofNat n = _; rw [fm_nat (by omega) (by omega)]; rfl) hd (kk C hL H locs ls hP hS hl)
end FMX

theorem ac_1 : Cond.methodLink RX6 28 arraycopyName ∈ fm_T := fm_mem 334 (by decide +kernel) rfl
theorem ac_2 : Cond.native arraycopyName ∈ fm_T := fm_mem 336 (by decide +kernel) rfl
theorem ac_3 : Cond.static arraycopyName ∈ fm_T := fm_mem 335 (by decide +kernel) rfl
theorem ac_4 : Cond.initialized "java/lang/System" ∈ fm_T := fm_mem 53 (by decide +kernel) rfl
theorem fm_mv_ne {σ : fm_Mem} {k sp dp n a b : Nat} (h : a ≠ k) : fm_mv σ k sp dp n a b = σ a b := by simp [fm_mv, h]
set_option maxRecDepth 20000 in
set_option maxHeartbeats 4000000 in
theorem k_X6_dropOldest {ω : fm_O} {σ : fm_Mem} (h0 : 1 ≤ σ 23 3) (h1 : σ 23 3 ≤ 30) : fm_Met kc ω yX6_dropOldest cX6_dropOldest 1 none (fm_rm 2) [fm_r ω 23] σ (fm_pN fun σ' => σ' = fm_mv (fm_mv (fm_mv (fm_up σ 23 3 (σ 23 3 - 1)) 24 1 0 (σ 23 3 - 1).toNat) 25 1 0 (σ 23 3 - 1).toNat) 26 1 0 (σ 23 3 - 1).toNat) := by
  refine fm_start (by decide) rfl (Nat.le_of_ble_eq_true rfl) [some (fm_r ω 23)] rfl (fun Γ => ?_)
  refine fm_ald0 dX6_dropOldest_0 ?_
  refine fm_dupR dX6_dropOldest_1 ?_
  refine gi_6_3 dX6_dropOldest_2 fd_X6_21 ?_
  try simp (disch := omega) only [fm_up_ne, fm_up_nj, fm_up_eq, fm_mv_ne]
  refine fm_iconst dX6_dropOldest_5 ?_
  refine fm_isub dX6_dropOldest_6 ?_
  refine pf_6_3 dX6_dropOldest_7 fd_X6_21 ?_
  refine fm_ald0 dX6_dropOldest_10 ?_
  refine gr_6_0 dX6_dropOldest_11 fd_X6_9 ?_
  refine fm_iconst dX6_dropOldest_14 ?_
  refine fm_ald0 dX6_dropOldest_15 ?_
  refine gr_6_0 dX6_dropOldest_16 fd_X6_9 ?_
  refine fm_iconst dX6_dropOldest_19 ?_
  refine fm_ald0 dX6_dropOldest_20 ?_
  refine gi_6_3 dX6_dropOldest_21 fd_X6_21 ?_
  try simp (disch := omega) only [fm_up_ne, fm_up_nj, fm_up_eq, fm_mv_ne]
  refine fm_acopy dX6_dropOldest_24 ac_1 ac_2 ac_3 ac_4 ia_24 (by omega) (by omega) (by omega) (by omega) (by omega) (by decide) (Nat.le_of_ble_eq_true rfl) ?_
  refine fm_ald0 dX6_dropOldest_27 ?_
  refine gr_6_1 dX6_dropOldest_28 fd_X6_15 ?_
  refine fm_iconst dX6_dropOldest_31 ?_
  refine fm_ald0 dX6_dropOldest_32 ?_
  refine gr_6_1 dX6_dropOldest_33 fd_X6_15 ?_
  refine fm_iconst dX6_dropOldest_36 ?_
  refine fm_ald0 dX6_dropOldest_37 ?_
  refine gi_6_3 dX6_dropOldest_38 fd_X6_21 ?_
  try simp (disch := omega) only [fm_up_ne, fm_up_nj, fm_up_eq, fm_mv_ne]
  refine fm_acopy dX6_dropOldest_41 ac_1 ac_2 ac_3 ac_4 ia_25 (by omega) (by omega) (by omega) (by omega) (by omega) (by decide) (Nat.le_of_ble_eq_true rfl) ?_
  refine fm_ald0 dX6_dropOldest_44 ?_
  refine gr_6_2 dX6_dropOldest_45 fd_X6_18 ?_
  refine fm_iconst dX6_dropOldest_48 ?_
  refine fm_ald0 dX6_dropOldest_49 ?_
  refine gr_6_2 dX6_dropOldest_50 fd_X6_18 ?_
  refine fm_iconst dX6_dropOldest_53 ?_
  refine fm_ald0 dX6_dropOldest_54 ?_
  refine gi_6_3 dX6_dropOldest_55 fd_X6_21 ?_
  try simp (disch := omega) only [fm_up_ne, fm_up_nj, fm_up_eq, fm_mv_ne]
  refine fm_acopy dX6_dropOldest_58 ac_1 ac_2 ac_3 ac_4 ia_26 (by omega) (by omega) (by omega) (by omega) (by omega) (by decide) (Nat.le_of_ble_eq_true rfl) ?_
  exact fm_vretN dX6_dropOldest_61 rfl rfl
def st_drop (σ : fm_Mem) : fm_Mem := if σ 23 3 = 30 then fm_mv (fm_mv (fm_mv (fm_up σ 23 3 29) 24 1 0 29) 25 1 0 29) 26 1 0 29 else σ
theorem st_drop_n {σ : fm_Mem} (h0 : 0 ≤ σ 23 3) (h1 : σ 23 3 ≤ 30) : 0 ≤ st_drop σ 23 3 ∧ st_drop σ 23 3 ≤ 29 := by
  unfold st_drop
  split
  · simp [fm_mv, fm_up]
  · omega
def st_keep (σ : fm_Mem) (c i v : Int) : fm_Mem := fm_up (fm_up (fm_up (fm_up (st_drop σ) 24 (st_drop σ 23 3).toNat c) 25 (st_drop σ 23 3).toNat i) 26 (st_drop σ 23 3).toNat v) 23 3 (st_drop σ 23 3 + 1)
set_option maxRecDepth 20000 in
set_option maxHeartbeats 4000000 in
theorem k_X6_keep {ω : fm_O} {σ : fm_Mem} {c i v : Int} (h0 : 0 ≤ σ 23 3) (h1 : σ 23 3 ≤ 30) : fm_Met kc ω yX6_keep cX6_keep 4 none (fm_rm 3) [fm_r ω 23, fm_I c, fm_I i, fm_I v] σ (fm_pN fun σ' => σ' = st_keep σ c i v) := by
  refine fm_start (by decide) rfl (Nat.le_of_ble_eq_true rfl) [some (fm_r ω 23), some (fm_I c), some (fm_I i), some (fm_I v)] rfl (fun Γ => ?_)
  have hJ : fm_W kc ω Γ (cX6_keep, RX6, fm_rm 3, 4, none) (fm_pN fun σ' => σ' = st_keep σ c i v) (st_drop σ) 13 [some (fm_r ω 23), some (fm_I c), some (fm_I i), some (fm_I v)] [] := by
    obtain ⟨h2, h3⟩ := st_drop_n h0 h1
    unfold st_keep
    generalize st_drop σ = τ at h2 h3 ⊢
    refine fm_ald0 dX6_keep_13 ?_
    refine gr_6_0 dX6_keep_14 fd_X6_9 ?_
    refine fm_ald0 dX6_keep_17 ?_
    refine gi_6_3 dX6_keep_18 fd_X6_21 ?_
    try simp (disch := omega) only [fm_up_ne, fm_up_nj, fm_up_eq]
    refine fm_ild1 dX6_keep_21 ?_
    refine fm_iast dX6_keep_22 ia_24 (by omega) (by omega) ?_
    refine fm_ald0 dX6_keep_23 ?_
    refine gr_6_1 dX6_keep_24 fd_X6_15 ?_
    refine fm_ald0 dX6_keep_27 ?_
    refine gi_6_3 dX6_keep_28 fd_X6_21 ?_
    try simp (disch := omega) only [fm_up_ne, fm_up_nj, fm_up_eq]
    refine fm_ild2 dX6_keep_31 ?_
    refine fm_iast dX6_keep_32 ia_25 (by omega) (by omega) ?_
    refine fm_ald0 dX6_keep_33 ?_
    refine gr_6_2 dX6_keep_34 fd_X6_18 ?_
    refine fm_ald0 dX6_keep_37 ?_
    refine gi_6_3 dX6_keep_38 fd_X6_21 ?_
    try simp (disch := omega) only [fm_up_ne, fm_up_nj, fm_up_eq]
    refine fm_ild3 dX6_keep_41 ?_
    refine fm_iast dX6_keep_42 ia_26 (by omega) (by omega) ?_
    refine fm_ald0 dX6_keep_43 ?_
    refine fm_dupR dX6_keep_44 ?_
    refine gi_6_3 dX6_keep_45 fd_X6_21 ?_
    try simp (disch := omega) only [fm_up_ne, fm_up_nj, fm_up_eq]
    refine fm_iconst dX6_keep_48 ?_
    refine fm_iadd dX6_keep_49 ?_
    refine pf_6_3 dX6_keep_50 fd_X6_21 ?_
    exact fm_vretN dX6_keep_53 rfl rfl
  refine fm_ald0 dX6_keep_0 ?_
  refine gi_6_3 dX6_keep_1 fd_X6_21 ?_
  refine fm_bipush (by decide) dX6_keep_4 ?_
  refine fm_icmp_ne (⟨by omega, by omega⟩) (⟨by omega, by omega⟩) 13 dX6_keep_6 (by decide) (fun h6 => ?_) (fun h6 => ?_)
  · unfold st_drop at hJ
    rw [if_neg h6] at hJ
    exact hJ
  · refine fm_ald0 dX6_keep_9 ?_
    refine fm_cvN dX6_keep_10 cl_X6_25 (k_X6_dropOldest (by omega) (by omega)) ob_23 rfl rfl (by decide) rfl rfl (Nat.le_of_ble_eq_true rfl) (fun s10 q10 => ?_)
    subst q10
    unfold st_drop at hJ
    rw [if_pos h6] at hJ
    rw [h6]
    exact hJ
end
section
set_option maxRecDepth 20000 in
set_option maxHeartbeats 4000000 in
theorem k_X8_changeWear {ω : fm_O} {σ : fm_Mem} {c i v : Int} (hc : 0 ≤ c ∧ c < 6) (hi : 0 ≤ i ∧ i < 40) (h0 : 0 ≤ σ 23 3) (h1 : σ 23 3 ≤ 30) : fm_Met kc ω yX8_changeWear cX8_changeWear 5 none (fm_rm 4) [fm_r ω 0, fm_I c, fm_I i, fm_I v] σ (fm_pN fun σ' => σ' = fm_up (st_keep σ c i (σ (39 + c.toNat) i.toNat)) (39 + c.toNat) i.toNat v) := by
  refine fm_start (by decide) rfl (Nat.le_of_ble_eq_true rfl) [some (fm_r ω 0), some (fm_I c), some (fm_I i), some (fm_I v), none] rfl (fun Γ => ?_)
  refine fm_ald0 dX8_changeWear_0 ?_
  refine gr_7_0 dX8_changeWear_1 fd_X8_11 ?_
  refine fm_ild1 dX8_changeWear_4 ?_
  refine ar_1 (by omega) (by omega) dX8_changeWear_5 ?_
  refine gr_3_1 (by omega) dX8_changeWear_6 fd_X8_112 ?_
  refine fm_ast4 rfl dX8_changeWear_9 ?_
  refine fm_ald0 dX8_changeWear_11 ?_
  refine gr_7_8 dX8_changeWear_12 fd_X8_50 ?_
  refine fm_ild1 dX8_changeWear_15 ?_
  refine fm_ild2 dX8_changeWear_16 ?_
  refine fm_ald4 dX8_changeWear_17 ?_
  refine fm_ild2 dX8_changeWear_19 ?_
  refine fm_iald dX8_changeWear_20 (ia_rw (by omega)) (by omega) (by omega) ?_
  refine fm_cvN dX8_changeWear_21 cl_X8_222 (k_X6_keep (by omega) (by omega)) ob_23 rfl rfl (by decide) rfl rfl (Nat.le_of_ble_eq_true rfl) (fun s21 q21 => ?_)
  subst q21
  refine fm_ald4 dX8_changeWear_24 ?_
  refine fm_ild2 dX8_changeWear_26 ?_
  refine fm_ild3 dX8_changeWear_27 ?_
  refine fm_iast dX8_changeWear_28 (ia_rw (by omega)) (by omega) (by omega) ?_
  exact fm_vretN dX8_changeWear_29 rfl rfl
/-- the tint of the last note that holds, or 0 -/
def ltint (cp sa en ti : Nat → Int) (c i : Int) : Nat → Int
  | 0 => 0
  | k + 1 => if cp k = c ∧ sa k ≤ i ∧ i ≤ en k then ti k else ltint cp sa en ti c i k
set_option maxRecDepth 20000 in
set_option maxHeartbeats 4000000 in
theorem l_X2_tintOf {ω : fm_O} {σ : fm_Mem} {c i : Int} (rc : fm_R c) (ri : fm_R i) (hn : ∀ k, k < 12 → fm_R (σ 14 k) ∧ fm_R (σ 15 k) ∧ fm_R (σ 16 k)) {Q : Int → fm_Mem → Prop} {Γ : fm_G} : ∀ n : Nat, n ≤ 12 → ∀ z : Int, z = (n : Int) - 1 → Q (ltint (σ 14) (σ 15) (σ 16) (σ 17) c i n) σ → fm_W kc ω Γ (cX2_tintOf, RX2, fm_rm 0, 4, (some .int)) (fm_pI Q) σ 7 [some (fm_r ω 13), some (fm_I c), some (fm_I i), some (fm_I z)] [] := by
  intro n
  induction n with
  | zero =>
    intro hn12 z hz hQ
    refine fm_ild3 dX2_tintOf_7 ?_
    refine fm_if_lt (⟨by omega, by omega⟩) 54 dX2_tintOf_8 (by decide) (fun h8 => ?_) (fun h8 => ?_)
    · refine fm_iconst dX2_tintOf_54 ?_
      exact fm_iretI dX2_tintOf_55 rfl hQ
    · exfalso; omega
  | succ n ih =>
    intro hn12 z hz hQ
    have hzn : z.toNat = n := by omega
    obtain ⟨b1, b2, b3⟩ := hn n (by omega)
    rw [ltint] at hQ
    refine fm_ild3 dX2_tintOf_7 ?_
    refine fm_if_lt (⟨by omega, by omega⟩) 54 dX2_tintOf_8 (by decide) (fun h8 => ?_) (fun h8 => ?_)
    · exfalso; omega
    · refine fm_ald0 dX2_tintOf_11 ?_
      refine gr_2_0 dX2_tintOf_12 fd_X2_9 ?_
      refine fm_ild3 dX2_tintOf_15 ?_
      refine fm_iald dX2_tintOf_16 ia_14 (by omega) (by omega) ?_
      rw [hzn]
      refine fm_ild1 dX2_tintOf_17 ?_
      refine fm_icmp_ne (⟨by omega, by omega⟩) (⟨by omega, by omega⟩) 48 dX2_tintOf_18 (by decide) (fun h18 => ?_) (fun h18 => ?_)
      · refine fm_inc3 rfl dX2_tintOf_48 ?_
        refine fm_goto 7 dX2_tintOf_51 (by decide) ?_
        exact ih (by omega) _ (by omega) (by rw [if_neg (by omega)] at hQ; exact hQ)
      · refine fm_ald0 dX2_tintOf_21 ?_
        refine gr_2_1 dX2_tintOf_22 fd_X2_15 ?_
        refine fm_ild3 dX2_tintOf_25 ?_
        refine fm_iald dX2_tintOf_26 ia_15 (by omega) (by omega) ?_
        rw [hzn]
        refine fm_ild2 dX2_tintOf_27 ?_
        refine fm_icmp_gt (⟨by omega, by omega⟩) (⟨by omega, by omega⟩) 48 dX2_tintOf_28 (by decide) (fun h28 => ?_) (fun h28 => ?_)
        · refine fm_inc3 rfl dX2_tintOf_48 ?_
          refine fm_goto 7 dX2_tintOf_51 (by decide) ?_
          exact ih (by omega) _ (by omega) (by rw [if_neg (by omega)] at hQ; exact hQ)
        · refine fm_ild2 dX2_tintOf_31 ?_
          refine fm_ald0 dX2_tintOf_32 ?_
          refine gr_2_2 dX2_tintOf_33 fd_X2_18 ?_
          refine fm_ild3 dX2_tintOf_36 ?_
          refine fm_iald dX2_tintOf_37 ia_16 (by omega) (by omega) ?_
          rw [hzn]
          refine fm_icmp_gt (⟨by omega, by omega⟩) (⟨by omega, by omega⟩) 48 dX2_tintOf_38 (by decide) (fun h38 => ?_) (fun h38 => ?_)
          · refine fm_inc3 rfl dX2_tintOf_48 ?_
            refine fm_goto 7 dX2_tintOf_51 (by decide) ?_
            exact ih (by omega) _ (by omega) (by rw [if_neg (by omega)] at hQ; exact hQ)
          · refine fm_ald0 dX2_tintOf_41 ?_
            refine gr_2_3 dX2_tintOf_42 fd_X2_21 ?_
            refine fm_ild3 dX2_tintOf_45 ?_
            refine fm_iald dX2_tintOf_46 ia_17 (by omega) (by omega) ?_
            rw [hzn]
            exact fm_iretI dX2_tintOf_47 rfl (by rw [if_pos (by omega)] at hQ; exact hQ)
set_option maxRecDepth 20000 in
set_option maxHeartbeats 4000000 in
theorem k_X2_tintOf {ω : fm_O} {σ : fm_Mem} {c i : Int} (rc : fm_R c) (ri : fm_R i) (hn : ∀ k, k < 12 → fm_R (σ 14 k) ∧ fm_R (σ 15 k) ∧ fm_R (σ 16 k)) (h0 : 0 ≤ σ 13 4) (h1 : σ 13 4 ≤ 12) : fm_Met kc ω yX2_tintOf cX2_tintOf 4 (some .int) (fm_rm 0) [fm_r ω 13, fm_I c, fm_I i] σ (fm_pI fun z σ' => z = ltint (σ 14) (σ 15) (σ 16) (σ 17) c i (σ 13 4).toNat ∧ σ = σ') := by
  refine fm_start (by decide) rfl (Nat.le_of_ble_eq_true rfl) [some (fm_r ω 13), some (fm_I c), some (fm_I i), none] rfl (fun Γ => ?_)
  refine fm_ald0 dX2_tintOf_0 ?_
  refine gi_2_4 dX2_tintOf_1 fd_X2_24 ?_
  refine fm_iconst dX2_tintOf_4 ?_
  refine fm_isub dX2_tintOf_5 ?_
  refine fm_ist3 rfl dX2_tintOf_6 ?_
  exact l_X2_tintOf rc ri hn (σ 13 4).toNat (by omega) _ (by omega) ⟨rfl, rfl⟩
def fm_fl (σ : fm_Mem) (k n : Nat) (v : Int) : fm_Mem := fun a b => if a = k ∧ b < n then v else σ a b
set_option maxRecDepth 20000 in
set_option maxHeartbeats 4000000 in
theorem l_fill {ω : fm_O} {k n : Nat} {v : Int} (ha : fm_ia kc k n) {σ : fm_Mem} {Γ : fm_G} : ∀ (d : Nat) (z : Int), 0 ≤ z → z + d = n → fm_W kc ω Γ (cJ7_fill_53178, RJ7, fm_rm 0, 4, none) (fm_pN fun σ' => σ' = fm_fl σ k n v) (fm_fl σ k z.toNat v) 5 [some (fm_r ω k), some (fm_I v), some (fm_I z), some (fm_I (n : Int))] [] := by
  have hn := ha.2.2
  intro d
  induction d with
  | zero =>
    intro z h0 hz
    refine fm_ild2 dJ7_fill_53178_5 ?_
    refine fm_ild3 dJ7_fill_53178_6 ?_
    refine fm_icmp_ge (⟨by omega, by omega⟩) (⟨by omega, by omega⟩) 20 dJ7_fill_53178_7 (by decide) (fun h7 => ?_) (fun h7 => ?_)
    · exact fm_vretN dJ7_fill_53178_20 rfl (by rw [show z.toNat = n by omega])
    · exfalso; omega
  | succ d ih =>
    intro z h0 hz
    refine fm_ild2 dJ7_fill_53178_5 ?_
    refine fm_ild3 dJ7_fill_53178_6 ?_
    refine fm_icmp_ge (⟨by omega, by omega⟩) (⟨by omega, by omega⟩) 20 dJ7_fill_53178_7 (by decide) (fun h7 => ?_) (fun h7 => ?_)
    · exfalso; omega
    · refine fm_ald0 dJ7_fill_53178_10 ?_
      refine fm_ild2 dJ7_fill_53178_11 ?_
      refine fm_ild1 dJ7_fill_53178_12 ?_
      refine fm_iast dJ7_fill_53178_13 ha (by omega) (by omega) ?_
      refine fm_inc2 rfl dJ7_fill_53178_14 ?_
      refine fm_goto 5 dJ7_fill_53178_17 (by decide) ?_
      have e : fm_up (fm_fl σ k z.toNat v) k z.toNat v = fm_fl σ k (z + 1).toNat v := by
        funext a b
        simp only [fm_up, fm_fl]
        by_cases h1 : a = k <;> by_cases h2 : b = z.toNat <;> by_cases h3 : b < z.toNat <;> simp [h1, h2, h3] <;> omega
      rw [e]
      exact ih (z + 1) (by omega) (by omega)
set_option maxRecDepth 20000 in
set_option maxHeartbeats 4000000 in
theorem k_fill {ω : fm_O} {σ : fm_Mem} {k n : Nat} {v : Int} (ha : fm_ia kc k n) : fm_Met kc ω yJ7_fill_53178 cJ7_fill_53178 4 none (fm_rm 0) [fm_r ω k, fm_I v] σ (fm_pN fun σ' => σ' = fm_fl σ k n v) := by
  refine fm_start (by decide) rfl (Nat.le_of_ble_eq_true rfl) [some (fm_r ω k), some (fm_I v), none, none] rfl (fun Γ => ?_)
  refine fm_iconst dJ7_fill_53178_0 ?_
  refine fm_ist2 rfl dJ7_fill_53178_1 ?_
  refine fm_ald0 dJ7_fill_53178_2 ?_
  refine fm_alen dJ7_fill_53178_3 ha ?_
  refine fm_ist3 rfl dJ7_fill_53178_4 ?_
  have h := l_fill (ω := ω) (v := v) ha (σ := σ) (Γ := Γ) n 0 (by omega) (by omega)
  rw [show fm_fl σ k (0 : Int).toNat v = σ by funext a b; simp [fm_fl]] at h
  exact h
def cu_cl (σ : fm_Mem) (n : Nat) : fm_Mem := fun a b => if 51 ≤ a ∧ a < 51 + n ∧ b < 6 then 0 else σ a b
set_option maxRecDepth 20000 in
set_option maxHeartbeats 4000000 in
theorem l_clear {ω : fm_O} {σ : fm_Mem} {Γ : fm_G} : ∀ (d : Nat) (z : Int), 0 ≤ z → z + d = 6 → fm_W kc ω Γ (cX0_clear, RX0, fm_rm 1, 2, none) (fm_pN fun σ' => σ' = fm_up (cu_cl σ 6) 18 4 0) (cu_cl σ z.toNat) 2 [some (fm_r ω 18), some (fm_I z)] [] := by
  intro d
  induction d with
  | zero =>
    intro z h0 hz
    refine fm_ild1 dX0_clear_2 ?_
    refine fm_bipush (by decide) dX0_clear_3 ?_
    refine fm_icmp_ge (⟨by omega, by omega⟩) (⟨by omega, by omega⟩) 24 dX0_clear_5 (by decide) (fun h5 => ?_) (fun h5 => ?_)
    · refine fm_ald0 dX0_clear_24 ?_
      refine fm_iconst dX0_clear_25 ?_
      refine pf_0_4 dX0_clear_26 fd_X0_26 ?_
      exact fm_vretN dX0_clear_29 rfl (by rw [show z.toNat = 6 by omega])
    · exfalso; omega
  | succ d ih =>
    intro z h0 hz
    refine fm_ild1 dX0_clear_2 ?_
    refine fm_bipush (by decide) dX0_clear_3 ?_
    refine fm_icmp_ge (⟨by omega, by omega⟩) (⟨by omega, by omega⟩) 24 dX0_clear_5 (by decide) (fun h5 => ?_) (fun h5 => ?_)
    · exfalso; omega
    · refine fm_ald0 dX0_clear_8 ?_
      refine gr_0_0 dX0_clear_9 fd_X0_11 ?_
      refine fm_ild1 dX0_clear_12 ?_
      refine ar_19 (by omega) (by omega) dX0_clear_13 ?_
      refine fm_iconst dX0_clear_14 ?_
      refine fm_csN dX0_clear_15 cl_X0_30 (k_fill (ia_wt (c := z.toNat) (by omega))) rfl rfl (by decide) rfl rfl (Nat.le_of_ble_eq_true rfl) (fun s15 q15 => ?_)
      subst q15
      refine fm_inc1 rfl dX0_clear_18 ?_
      refine fm_goto 2 dX0_clear_21 (by decide) ?_
      have e : fm_fl (cu_cl σ z.toNat) (51 + z.toNat) 6 0 = cu_cl σ (z + 1).toNat := by
        funext a b
        simp only [cu_cl, fm_fl]
        by_cases h1 : a = 51 + z.toNat ∧ b < 6
        · rw [if_pos h1, if_pos (by omega)]
        · rw [if_neg h1]
          by_cases h2 : 51 ≤ a ∧ a < 51 + z.toNat ∧ b < 6
          · rw [if_pos h2, if_pos (by omega)]
          · rw [if_neg h2, if_neg (by omega)]
      rw [e]
      exact ih (z + 1) (by omega) (by omega)
set_option maxRecDepth 20000 in
set_option maxHeartbeats 4000000 in
theorem k_X0_clear {ω : fm_O} {σ : fm_Mem}  : fm_Met kc ω yX0_clear cX0_clear 2 none (fm_rm 1) [fm_r ω 18] σ (fm_pN fun σ' => σ' = fm_up (cu_cl σ 6) 18 4 0) := by
  refine fm_start (by decide) rfl (Nat.le_of_ble_eq_true rfl) [some (fm_r ω 18), none] rfl (fun Γ => ?_)
  refine fm_iconst dX0_clear_0 ?_
  refine fm_ist1 rfl dX0_clear_1 ?_
  have h := l_clear (ω := ω) (σ := σ) (Γ := Γ) 6 0 (by omega) (by omega)
  rw [show cu_cl σ (0 : Int).toNat = σ by funext a b; simp [cu_cl]; omega] at h
  exact h
end
section
/-! the film: what both sides tell. μ by the numbers of km: 0 (copies 0, notes 7, cues 12, steps 16), 1 many, 2 mark, 3 wear, 4 camera, 5 shot, 6 rules, 7..10 notes, 11..13 cues, 14 15 steps -/
/-- what a film keeps -/
def fi (μ : fm_Mem) : Prop := (0 ≤ μ 0 0 ∧ μ 0 0 ≤ 6) ∧ (∀ c, c < 7 → 0 ≤ μ 1 c ∧ μ 1 c ≤ 40) ∧ (∀ c : Nat, c < 6 → μ 0 0 ≤ c → μ 1 c = 0) ∧ (∀ j, 0 ≤ μ 2 j ∧ μ 2 j ≤ 63) ∧ (∀ j, 0 ≤ μ 3 j ∧ μ 3 j ≤ 9) ∧ (∀ j, 0 ≤ μ 4 j ∧ μ 4 j ≤ 1) ∧ (∀ j, 0 ≤ μ 5 j ∧ μ 5 j ≤ 5) ∧ (∀ j, 0 ≤ μ 6 j ∧ μ 6 j ≤ 100) ∧ μ 6 0 ≤ 5
  ∧ (0 ≤ μ 0 7 ∧ μ 0 7 ≤ 12) ∧ (∀ j, fm_R (μ 7 j) ∧ fm_R (μ 8 j) ∧ fm_R (μ 9 j) ∧ 0 ≤ μ 10 j ∧ μ 10 j ≤ 9)
  ∧ (0 ≤ μ 0 12 ∧ μ 0 12 ≤ 20) ∧ (∀ j, (0 ≤ μ 11 j ∧ μ 11 j ≤ 5) ∧ (0 ≤ μ 12 j ∧ μ 12 j ≤ 5) ∧ 0 ≤ μ 13 j ∧ μ 13 j ≤ 100)
  ∧ (0 ≤ μ 0 16 ∧ μ 0 16 ≤ 30) ∧ (∀ j, (0 ≤ μ 14 j ∧ μ 14 j < 240) ∧ 0 ≤ μ 15 j ∧ μ 15 j ≤ 9)
/-- the weights of the cues from a to b among the first n -/
def cuw (μ : fm_Mem) (a b : Int) : Nat → Int
  | 0 => 0
  | k + 1 => cuw μ a b k + (if μ 11 k = a ∧ μ 12 k = b then μ 13 k else 0)
def relA (μ σ : fm_Mem) : Prop := σ 0 1 = μ 0 0 ∧ ∀ c : Nat, c < 6 → σ (27 + c) 3 = μ 1 c ∧ ∀ i : Nat, i < 40 → σ (33 + c) i = μ 2 (40 * c + i) ∧ σ (39 + c) i = μ 3 (40 * c + i) ∧ σ (45 + c) i = μ 4 (40 * c + i)
def relS (μ σ : fm_Mem) : Prop := σ 2 2 = μ 1 6 ∧ ∀ i : Nat, i < 40 → σ 3 i = μ 2 (240 + i) ∧ σ 4 i = μ 5 i
def relR (μ σ : fm_Mem) : Prop := ∀ i : Nat, i < 4 → σ 5 i = μ 6 i
def relN (μ σ : fm_Mem) : Prop := σ 13 4 = μ 0 7 ∧ ∀ k : Nat, k < 12 → σ 14 k = μ 7 k ∧ σ 15 k = μ 8 k ∧ σ 16 k = μ 9 k ∧ σ 17 k = μ 10 k
def relC (μ σ : fm_Mem) : Prop := σ 18 4 = μ 0 12 ∧ ∀ a b : Nat, a < 6 → b < 6 → σ (51 + a) b = cuw μ a b (μ 0 12).toNat
def relT (μ σ : fm_Mem) : Prop := σ 23 3 = μ 0 16 ∧ ∀ k : Nat, (k : Int) < μ 0 16 → 40 * σ 24 k + σ 25 k = μ 14 k ∧ (0 ≤ σ 24 k ∧ σ 24 k < 6) ∧ (0 ≤ σ 25 k ∧ σ 25 k < 40) ∧ σ 26 k = μ 15 k
def rel (μ σ : fm_Mem) : Prop := relA μ σ ∧ relS μ σ ∧ relR μ σ ∧ relN μ σ ∧ relC μ σ ∧ relT μ σ
theorem relA.cong {μ μ' σ σ' : fm_Mem} (h : relA μ σ) (h1 : σ' 0 1 = σ 0 1) (h2 : ∀ k j, 27 ≤ k → k < 51 → σ' k j = σ k j) (m1 : μ' 0 0 = μ 0 0) (m2 : ∀ j, j < 6 → μ' 1 j = μ 1 j) (m3 : ∀ k j, 2 ≤ k → k < 5 → j < 240 → μ' k j = μ k j) : relA μ' σ' := by
  obtain ⟨a, b⟩ := h
  refine ⟨by rw [h1, m1, a], fun c hc => ?_⟩
  obtain ⟨b1, b2⟩ := b c hc
  refine ⟨by rw [h2 _ _ (by omega) (by omega), m2 c hc, b1], fun i hi => ?_⟩
  obtain ⟨c1, c2, c3⟩ := b2 i hi
  rw [h2 _ _ (by omega) (by omega), h2 _ _ (by omega) (by omega), h2 _ _ (by omega) (by omega), m3 _ _ (by omega) (by omega) (by omega), m3 _ _ (by omega) (by omega) (by omega), m3 _ _ (by omega) (by omega) (by omega)]
  exact ⟨c1, c2, c3⟩
theorem relS.cong {μ μ' σ σ' : fm_Mem} (h : relS μ σ) (h1 : ∀ k j, 2 ≤ k → k < 5 → σ' k j = σ k j) (m1 : μ' 1 6 = μ 1 6) (m2 : ∀ j, 240 ≤ j → μ' 2 j = μ 2 j) (m3 : ∀ j, μ' 5 j = μ 5 j) : relS μ' σ' := by
  obtain ⟨a, b⟩ := h
  refine ⟨by rw [h1 _ _ (by omega) (by omega), m1, a], fun i hi => ?_⟩
  obtain ⟨b1, b2⟩ := b i hi
  rw [h1 _ _ (by omega) (by omega), h1 _ _ (by omega) (by omega), m2 _ (by omega), m3]
  exact ⟨b1, b2⟩
theorem relR.cong {μ μ' σ σ' : fm_Mem} (h : relR μ σ) (h1 : ∀ j, σ' 5 j = σ 5 j) (m1 : ∀ j, μ' 6 j = μ 6 j) : relR μ' σ' := fun i hi => by rw [h1, m1, h i hi]
theorem relN.cong {μ μ' σ σ' : fm_Mem} (h : relN μ σ) (h1 : ∀ k j, 13 ≤ k → k < 18 → σ' k j = σ k j) (m1 : μ' 0 7 = μ 0 7) (m2 : ∀ k j, 7 ≤ k → k < 11 → μ' k j = μ k j) : relN μ' σ' := by
  obtain ⟨a, b⟩ := h
  refine ⟨by rw [h1 _ _ (by omega) (by omega), m1, a], fun k hk => ?_⟩
  rw [h1 _ _ (by omega) (by omega), h1 _ _ (by omega) (by omega), h1 _ _ (by omega) (by omega), h1 _ _ (by omega) (by omega), m2 _ _ (by omega) (by omega), m2 _ _ (by omega) (by omega), m2 _ _ (by omega) (by omega), m2 _ _ (by omega) (by omega)]
  exact b k hk
theorem cuw_cong {μ μ' : fm_Mem} {a b : Int} : ∀ (n : Nat), (∀ k j, 11 ≤ k → k < 14 → j < n → μ' k j = μ k j) → cuw μ' a b n = cuw μ a b n
  | 0, _ => rfl
  | n + 1, h => by rw [cuw, cuw, cuw_cong n (fun k j h1 h2 h3 => h k j h1 h2 (by omega)), h 11 n (by omega) (by omega) (by omega), h 12 n (by omega) (by omega) (by omega), h 13 n (by omega) (by omega) (by omega)]
theorem relC.cong {μ μ' σ σ' : fm_Mem} (h : relC μ σ) (h0 : σ' 18 4 = σ 18 4) (h1 : ∀ k j, 51 ≤ k → k < 57 → σ' k j = σ k j) (m1 : μ' 0 12 = μ 0 12) (m2 : ∀ k j, 11 ≤ k → k < 14 → μ' k j = μ k j) : relC μ' σ' := by
  obtain ⟨a, b⟩ := h
  refine ⟨by rw [h0, m1, a], fun x y hx hy => ?_⟩
  rw [h1 _ _ (by omega) (by omega), m1, cuw_cong _ (fun k j q1 q2 _ => m2 k j q1 q2)]
  exact b x y hx hy
theorem relT.cong {μ μ' σ σ' : fm_Mem} (h : relT μ σ) (h1 : ∀ k j, 23 ≤ k → k < 27 → σ' k j = σ k j) (m1 : μ' 0 16 = μ 0 16) (m2 : ∀ k j, 14 ≤ k → k < 16 → μ' k j = μ k j) : relT μ' σ' := by
  obtain ⟨a, b⟩ := h
  refine ⟨by rw [h1 _ _ (by omega) (by omega), m1, a], fun k hk => ?_⟩
  rw [m1] at hk
  rw [h1 _ _ (by omega) (by omega), h1 _ _ (by omega) (by omega), h1 _ _ (by omega) (by omega), m2 _ _ (by omega) (by omega), m2 _ _ (by omega) (by omega)]
  exact b k hk
/-- the class's scratch cells -/
def scr (k : Nat) : Prop := k = 8 ∨ k = 9 ∨ k = 12 ∨ (20 ≤ k ∧ k ≤ 22) ∨ 57 ≤ k
def frm (σ σ' : fm_Mem) : Prop := ∀ k j, ¬ scr k → σ' k j = σ k j
def sam (μ μ' : fm_Mem) : Prop := ∀ k j, k < 16 → μ' k j = μ k j
theorem frm.rfl {σ : fm_Mem} : frm σ σ := fun _ _ _ => Eq.refl _
theorem frm.trans {a b c : fm_Mem} (h1 : frm a b) (h2 : frm b c) : frm a c := fun k j h => (h2 k j h).trans (h1 k j h)
theorem frm.up {a b : fm_Mem} {k j : Nat} {v : Int} (h : frm a b) (hk : scr k) : frm a (fm_up b k j v) := fun k2 j2 h2 => by
  have hne : k2 ≠ k := fun e => h2 (by rw [e]; exact hk)
  rw [fm_up_ne hne]
  exact h k2 j2 h2
theorem sam.rfl {σ : fm_Mem} : sam σ σ := fun _ _ _ => Eq.refl _
theorem sam.trans {a b c : fm_Mem} (h1 : sam a b) (h2 : sam b c) : sam a c := fun k j h => (h2 k j h).trans (h1 k j h)
theorem sam.up {a b : fm_Mem} {k j : Nat} {v : Int} (h : sam a b) (hk : 16 ≤ k) : sam a (fm_up b k j v) := fun k2 j2 h2 => by
  rw [fm_up_ne (by omega)]
  exact h k2 j2 h2
theorem rel.frm {μ σ σ' : fm_Mem} (h : rel μ σ) (hf : frm σ σ') : rel μ σ' := by
  obtain ⟨a, b, c, d, e, f⟩ := h
  have z : ∀ k j, ¬ scr k → σ' k j = σ k j := hf
  have s : ∀ {k}, (k < 8 ∨ k = 10 ∨ k = 11 ∨ (13 ≤ k ∧ k < 20) ∨ (23 ≤ k ∧ k < 57)) → ¬ scr k := fun {k} h1 h2 => by unfold scr at h2; omega
  exact ⟨a.cong (z _ _ (s (by omega))) (fun k j h1 h2 => z _ _ (s (by omega))) (Eq.refl _) (fun _ _ => Eq.refl _) (fun _ _ _ _ _ => Eq.refl _), b.cong (fun k j h1 h2 => z _ _ (s (by omega))) (Eq.refl _) (fun _ _ => Eq.refl _) (fun _ => Eq.refl _), c.cong (fun j => z _ _ (s (by omega))) (fun _ => Eq.refl _), d.cong (fun k j h1 h2 => z _ _ (s (by omega))) (Eq.refl _) (fun _ _ _ _ => Eq.refl _), e.cong (z _ _ (s (by omega))) (fun k j h1 h2 => z _ _ (s (by omega))) (Eq.refl _) (fun _ _ _ _ => Eq.refl _), f.cong (fun k j h1 h2 => z _ _ (s (by omega))) (Eq.refl _) (fun _ _ _ _ => Eq.refl _)⟩
theorem rel.sam {μ μ' σ : fm_Mem} (h : rel μ σ) (hf : sam μ μ') : rel μ' σ := by
  obtain ⟨a, b, c, d, e, f⟩ := h
  have z : ∀ k j, k < 16 → μ' k j = μ k j := hf
  exact ⟨a.cong (Eq.refl _) (fun _ _ _ _ => Eq.refl _) (z _ _ (by omega)) (fun _ _ => z _ _ (by omega)) (fun _ _ _ _ _ => z _ _ (by omega)), b.cong (fun _ _ _ _ => Eq.refl _) (z _ _ (by omega)) (fun _ _ => z _ _ (by omega)) (fun _ => z _ _ (by omega)), c.cong (fun _ => Eq.refl _) (fun _ => z _ _ (by omega)), d.cong (fun _ _ _ _ => Eq.refl _) (z _ _ (by omega)) (fun _ _ _ _ => z _ _ (by omega)), e.cong (Eq.refl _) (fun _ _ _ _ => Eq.refl _) (z _ _ (by omega)) (fun _ _ _ _ => z _ _ (by omega)), f.cong (fun _ _ _ _ => Eq.refl _) (z _ _ (by omega)) (fun _ _ _ _ => z _ _ (by omega))⟩
theorem rel.cw {μ σ : fm_Mem} (hi : fi μ) (h : rel μ σ) : cw σ := by
  obtain ⟨⟨a1, a2⟩, ⟨b1, b2⟩, c, -⟩ := h
  obtain ⟨i1, i2, i3, i4, i5, i6, i7, i8, i9, -⟩ := hi
  refine ⟨by rw [a1]; exact i1, fun c hc => ?_, by rw [b1]; exact i2 6 (by omega), fun c hc i hi => ?_, fun i hi => ?_, fun i hi => by rw [c i hi]; exact i8 i, by rw [c 0 (by omega)]; exact i9⟩
  · rw [(a2 c hc).1]; exact i2 c (by omega)
  · obtain ⟨q1, q2, q3⟩ := (a2 c hc).2 i hi
    rw [q1, q2, q3]
    exact ⟨i4 _, i5 _, i6 _⟩
  · obtain ⟨q1, q2⟩ := b2 i hi
    rw [q1, q2]
    exact ⟨i4 _, i7 _⟩
end
section
/-! what the simple calls answer, and what the film is behind them -/
theorem fm_up_rel {σ μ : fm_Mem} {k j a b k' j' a' b' : Nat} {v v' : Int} (h : (a = k ∧ b = j) ↔ (a' = k' ∧ b' = j')) (hv : v = v') (e : σ a b = μ a' b') : fm_up σ k j v a b = fm_up μ k' j' v' a' b' := by
  unfold fm_up
  by_cases q : a = k ∧ b = j
  · rw [if_pos q, if_pos (h.mp q), hv]
  · rw [if_neg q, if_neg (fun z => q (h.mpr z)), e]
theorem fm_up_all {σ : fm_Mem} {k j a b : Nat} {v : Int} {p : Int → Prop} (hv : p v) (h : p (σ a b)) : p (fm_up σ k j v a b) := by
  unfold fm_up
  split
  · exact hv
  · exact h
abbrev isC (μ : fm_Mem) (c : Int) : Prop := 0 ≤ c ∧ c < μ 0 0
abbrev isF (μ : fm_Mem) (c i : Int) : Prop := 0 ≤ c ∧ c < μ 0 0 ∧ 0 ≤ i ∧ i < μ 1 c.toNat
abbrev inR (v a b : Int) : Prop := a ≤ v ∧ v ≤ b
def sp_copy (μ : fm_Mem) : Int × fm_Mem := if μ 0 0 = 6 then (-3, μ) else (μ 0 0, fm_up μ 0 0 (μ 0 0 + 1))
def lay (μ : fm_Mem) (c m v cam : Int) : fm_Mem := fm_up (fm_up (fm_up (fm_up μ 2 (40 * c + μ 1 c.toNat).toNat m) 3 (40 * c + μ 1 c.toNat).toNat v) 4 (40 * c + μ 1 c.toNat).toNat cam) 1 c.toNat (μ 1 c.toNat + 1)
def sp_frame (μ : fm_Mem) (c m v cam : Int) : Int × fm_Mem := if ¬ (isC μ c ∧ inR m 0 63 ∧ inR v 0 9 ∧ inR cam 0 1) then (-1, μ) else if μ 1 c.toNat = 40 then (-3, μ) else (μ 1 c.toNat + 1, lay μ c m v cam)
def sp_at (μ : fm_Mem) (c i what : Int) : Int := if ¬ (isF μ c i ∧ inR what 0 2) then -1 else if what = 0 then μ 2 (40 * c + i).toNat else if what = 1 then μ 3 (40 * c + i).toNat else μ 4 (40 * c + i).toNat
def kdrop (μ : fm_Mem) : fm_Mem := if μ 0 16 = 30 then (fun a b => if a = 0 ∧ b = 16 then 29 else if (a = 14 ∨ a = 15) ∧ b < 29 then μ a (b + 1) else μ a b) else μ
def kp (μ : fm_Mem) (q v : Int) : fm_Mem := fm_up (fm_up (fm_up (fm_up (kdrop μ) 14 (kdrop μ 0 16).toNat q) 15 (kdrop μ 0 16).toNat (μ 3 q.toNat)) 0 16 (kdrop μ 0 16 + 1)) 3 q.toNat v
def sp_wear (μ : fm_Mem) (c i v : Int) : Int × fm_Mem := if ¬ (isF μ c i ∧ inR v 0 9) then (-1, μ) else (μ 3 (40 * c + i).toNat, kp μ (40 * c + i) v)
def sp_place (μ : fm_Mem) (m s : Int) : Int × fm_Mem := if ¬ (inR m 0 63 ∧ inR s 0 5) then (-1, μ) else if μ 1 6 = 40 then (-3, μ) else (μ 1 6 + 1, fm_up (fm_up (fm_up μ 2 (240 + μ 1 6).toNat m) 5 (μ 1 6).toNat s) 1 6 (μ 1 6 + 1))
def sp_noScript (μ : fm_Mem) : Int × fm_Mem := (μ 1 6, fm_up μ 1 6 0)
def sp_rule (μ : fm_Mem) (what v : Int) : Int × fm_Mem := if ¬ (inR what 0 3 ∧ inR v 0 (if what = 0 then 5 else 100)) then (-1, μ) else (μ 6 what.toNat, fm_up μ 6 what.toNat v)
def sp_note (μ : fm_Mem) (c a b t : Int) : Int × fm_Mem := if ¬ (isF μ c a ∧ isF μ c b ∧ a ≤ b ∧ inR t 1 9) then (-1, μ) else if μ 0 7 = 12 then (-3, μ) else (μ 0 7 + 1, fm_up (fm_up (fm_up (fm_up (fm_up μ 7 (μ 0 7).toNat c) 8 (μ 0 7).toNat a) 9 (μ 0 7).toNat b) 10 (μ 0 7).toNat t) 0 7 (μ 0 7 + 1))
def sp_cue (μ : fm_Mem) (a b v : Int) : Int × fm_Mem := if ¬ (inR a 0 5 ∧ inR b 0 5 ∧ a ≠ b ∧ inR v 1 100) then (-1, μ) else if μ 0 12 = 20 then (-3, μ) else (μ 0 12 + 1, fm_up (fm_up (fm_up (fm_up μ 11 (μ 0 12).toNat a) 12 (μ 0 12).toNat b) 13 (μ 0 12).toNat v) 0 12 (μ 0 12 + 1))
def sp_noCues (μ : fm_Mem) : Int × fm_Mem := (μ 0 12, fm_up μ 0 12 0)
def sp_undo (μ : fm_Mem) : Int × fm_Mem := if μ 0 16 = 0 then (-2, μ) else (μ 14 (μ 0 16 - 1).toNat / 40 * 100 + μ 14 (μ 0 16 - 1).toNat % 40, fm_up (fm_up μ 0 16 (μ 0 16 - 1)) 3 (μ 14 (μ 0 16 - 1).toNat).toNat (μ 15 (μ 0 16 - 1).toNat))
def sp_count (μ : fm_Mem) (w : Int) : Int := if w = 0 then μ 0 0 else if w = 1 then μ 1 6 else if w = 2 then μ 0 7 else if w = 3 then μ 0 12 else if w = 4 then μ 0 16 else -1
-- the relation stays
theorem rel_copy {μ σ : fm_Mem} {v : Int} (h : rel μ σ) : rel (fm_up μ 0 0 v) (fm_up σ 0 1 v) := by
  obtain ⟨a, b, c, d, e, f⟩ := h
  refine ⟨⟨by rw [fm_up_eq, fm_up_eq], fun c hc => ?_⟩, b.cong ?_ ?_ ?_ ?_, c.cong ?_ ?_, d.cong ?_ ?_ ?_, e.cong ?_ ?_ ?_ ?_, f.cong ?_ ?_ ?_⟩
  · simp (disch := omega) only [fm_up_ne, fm_up_nj]
    exact a.2 c hc
  all_goals (intros; simp (disch := omega) only [fm_up_ne, fm_up_nj])
theorem rel_lay {μ σ : fm_Mem} {c : Int} {m v cam : Int} (h : rel μ σ) (hc : 0 ≤ c ∧ c < 6) (hn : 0 ≤ μ 1 c.toNat ∧ μ 1 c.toNat < 40) : rel (lay μ c m v cam) (fm_up (fm_up (fm_up (fm_up σ (33 + c.toNat) (σ (27 + c.toNat) 3).toNat m) (39 + c.toNat) (σ (27 + c.toNat) 3).toNat v) (45 + c.toNat) (σ (27 + c.toNat) 3).toNat cam) (27 + c.toNat) 3 (σ (27 + c.toNat) 3 + 1)) := by
  obtain ⟨a, b, d, e, f, g⟩ := h
  have hs := (a.2 c.toNat (by omega)).1
  unfold lay
  rw [hs]
  refine ⟨⟨?_, fun x hx => ⟨?_, fun i hi => ⟨?_, ?_, ?_⟩⟩⟩, b.cong ?_ ?_ ?_ ?_, d.cong ?_ ?_, e.cong ?_ ?_ ?_, f.cong ?_ ?_ ?_ ?_, g.cong ?_ ?_ ?_⟩
  · simp (disch := omega) only [fm_up_ne, fm_up_nj]
    exact a.1
  · refine fm_up_rel (by omega) rfl ?_
    simp (disch := omega) only [fm_up_ne]
    exact (a.2 x hx).1
  · simp (disch := omega) only [fm_up_ne]
    exact fm_up_rel (by omega) rfl ((a.2 x hx).2 i hi).1
  · simp (disch := omega) only [fm_up_ne]
    refine fm_up_rel (by omega) rfl ?_
    simp (disch := omega) only [fm_up_ne]
    exact ((a.2 x hx).2 i hi).2.1
  · simp (disch := omega) only [fm_up_ne]
    refine fm_up_rel (by omega) rfl ?_
    simp (disch := omega) only [fm_up_ne]
    exact ((a.2 x hx).2 i hi).2.2
  all_goals (intros; simp (disch := omega) only [fm_up_ne, fm_up_nj])
theorem rel_place {μ σ : fm_Mem} {m s : Int} (h : rel μ σ) (hn : 0 ≤ μ 1 6 ∧ μ 1 6 < 40) : rel (fm_up (fm_up (fm_up μ 2 (240 + μ 1 6).toNat m) 5 (μ 1 6).toNat s) 1 6 (μ 1 6 + 1)) (fm_up (fm_up (fm_up σ 3 (σ 2 2).toNat m) 4 (σ 2 2).toNat s) 2 2 (σ 2 2 + 1)) := by
  obtain ⟨a, b, d, e, f, g⟩ := h
  rw [b.1]
  refine ⟨a.cong ?_ ?_ ?_ ?_ ?_, ⟨?_, fun i hi => ⟨?_, ?_⟩⟩, d.cong ?_ ?_, e.cong ?_ ?_ ?_, f.cong ?_ ?_ ?_ ?_, g.cong ?_ ?_ ?_⟩
  case refine_6 => rw [fm_up_eq, fm_up_eq]
  case refine_7 =>
    simp (disch := omega) only [fm_up_ne]
    exact fm_up_rel (by omega) rfl (b.2 i hi).1
  case refine_8 =>
    simp (disch := omega) only [fm_up_ne]
    refine fm_up_rel (by omega) rfl ?_
    simp (disch := omega) only [fm_up_ne]
    exact (b.2 i hi).2
  all_goals (intros; simp (disch := omega) only [fm_up_ne, fm_up_nj])
theorem rel_noScript {μ σ : fm_Mem} (h : rel μ σ) : rel (fm_up μ 1 6 0) (fm_up σ 2 2 0) := by
  obtain ⟨a, b, d, e, f, g⟩ := h
  refine ⟨a.cong ?_ ?_ ?_ ?_ ?_, ⟨by rw [fm_up_eq, fm_up_eq], fun i hi => ?_⟩, d.cong ?_ ?_, e.cong ?_ ?_ ?_, f.cong ?_ ?_ ?_ ?_, g.cong ?_ ?_ ?_⟩
  case refine_6 =>
    simp (disch := omega) only [fm_up_ne]
    exact b.2 i hi
  all_goals (intros; simp (disch := omega) only [fm_up_ne, fm_up_nj])
theorem rel_rule {μ σ : fm_Mem} {w v : Int} (h : rel μ σ) : rel (fm_up μ 6 w.toNat v) (fm_up σ 5 w.toNat v) := by
  obtain ⟨a, b, d, e, f, g⟩ := h
  refine ⟨a.cong ?_ ?_ ?_ ?_ ?_, b.cong ?_ ?_ ?_ ?_, fun i hi => ?_, e.cong ?_ ?_ ?_, f.cong ?_ ?_ ?_ ?_, g.cong ?_ ?_ ?_⟩
  case refine_10 => exact fm_up_rel (by omega) rfl (d i hi)
  all_goals (intros; simp (disch := omega) only [fm_up_ne, fm_up_nj])
theorem rel_note {μ σ : fm_Mem} {c x y t : Int} (h : rel μ σ) (hn : 0 ≤ μ 0 7 ∧ μ 0 7 < 12) : rel (fm_up (fm_up (fm_up (fm_up (fm_up μ 7 (μ 0 7).toNat c) 8 (μ 0 7).toNat x) 9 (μ 0 7).toNat y) 10 (μ 0 7).toNat t) 0 7 (μ 0 7 + 1)) (fm_up (fm_up (fm_up (fm_up (fm_up σ 14 (σ 13 4).toNat c) 15 (σ 13 4).toNat x) 16 (σ 13 4).toNat y) 17 (σ 13 4).toNat t) 13 4 (σ 13 4 + 1)) := by
  obtain ⟨a, b, d, e, f, g⟩ := h
  rw [e.1]
  refine ⟨a.cong ?_ ?_ ?_ ?_ ?_, b.cong ?_ ?_ ?_ ?_, d.cong ?_ ?_, ⟨by rw [fm_up_eq, fm_up_eq], fun k hk => ?_⟩, f.cong ?_ ?_ ?_ ?_, g.cong ?_ ?_ ?_⟩
  case refine_12 =>
    obtain ⟨e1, e2, e3, e4⟩ := e.2 k hk
    simp (disch := omega) only [fm_up_ne]
    refine ⟨fm_up_rel (by omega) rfl e1, fm_up_rel (by omega) rfl ?_, fm_up_rel (by omega) rfl ?_, fm_up_rel (by omega) rfl ?_⟩
    · simp (disch := omega) only [fm_up_ne]; exact e2
    · simp (disch := omega) only [fm_up_ne]; exact e3
    · simp (disch := omega) only [fm_up_ne]; exact e4
  all_goals (intros; simp (disch := omega) only [fm_up_ne, fm_up_nj])
theorem rel_cue {μ σ : fm_Mem} {x y v : Int} (h : rel μ σ) (hx : 0 ≤ x ∧ x < 6) (hy : 0 ≤ y ∧ y < 6) (hn : 0 ≤ μ 0 12 ∧ μ 0 12 < 20) : rel (fm_up (fm_up (fm_up (fm_up μ 11 (μ 0 12).toNat x) 12 (μ 0 12).toNat y) 13 (μ 0 12).toNat v) 0 12 (μ 0 12 + 1)) (fm_up (fm_up σ (51 + x.toNat) y.toNat (σ (51 + x.toNat) y.toNat + v)) 18 4 (σ 18 4 + 1)) := by
  obtain ⟨a, b, d, e, f, g⟩ := h
  rw [f.1]
  refine ⟨a.cong ?_ ?_ ?_ ?_ ?_, b.cong ?_ ?_ ?_ ?_, d.cong ?_ ?_, e.cong ?_ ?_ ?_, ⟨by rw [fm_up_eq, fm_up_eq], fun p q hp hq => ?_⟩, g.cong ?_ ?_ ?_⟩
  case refine_15 =>
    rw [fm_up_eq, show (μ 0 12 + 1).toNat = (μ 0 12).toNat + 1 by omega, cuw, cuw_cong (μ := μ) _ (fun k j h1 h2 h3 => by simp (disch := omega) only [fm_up_ne, fm_up_nj])]
    simp (disch := omega) only [fm_up_ne, fm_up_eq]
    unfold fm_up
    by_cases z : 51 + p = 51 + x.toNat ∧ q = y.toNat
    · have z1 : x.toNat = p := by omega
      have z2 : y.toNat = q := by omega
      rw [if_pos z, if_pos (by omega), z1, z2, f.2 p q hp hq]
    · rw [if_neg z, if_neg (by omega), f.2 p q hp hq]
      omega
  all_goals (intros; simp (disch := omega) only [fm_up_ne, fm_up_nj])
theorem rel_noCues {μ σ : fm_Mem} (h : rel μ σ) : rel (fm_up μ 0 12 0) (fm_up (cu_cl σ 6) 18 4 0) := by
  obtain ⟨a, b, d, e, f, g⟩ := h
  refine ⟨a.cong ?_ ?_ ?_ ?_ ?_, b.cong ?_ ?_ ?_ ?_, d.cong ?_ ?_, e.cong ?_ ?_ ?_, ⟨by rw [fm_up_eq, fm_up_eq], fun p q hp hq => ?_⟩, g.cong ?_ ?_ ?_⟩
  case refine_15 =>
    rw [fm_up_eq]
    simp (disch := omega) only [fm_up_ne]
    unfold cu_cl
    rw [if_pos (by omega)]
    rfl
  all_goals (intros; simp (disch := omega) only [fm_up_ne, fm_up_nj])
  all_goals (unfold cu_cl; rw [if_neg (by omega)])
-- steps
theorem kdrop_n {μ : fm_Mem} (h : 0 ≤ μ 0 16 ∧ μ 0 16 ≤ 30) : 0 ≤ kdrop μ 0 16 ∧ kdrop μ 0 16 ≤ 29 := by
  unfold kdrop
  split
  · simp
  · omega
theorem kdrop_o {μ : fm_Mem} {a b : Nat} (h1 : ¬ (a = 0 ∧ b = 16)) (h2 : a ≠ 14) (h3 : a ≠ 15) : kdrop μ a b = μ a b := by
  unfold kdrop
  split
  · simp only
    rw [if_neg h1, if_neg (by omega)]
  · rfl
theorem st_drop_o {σ : fm_Mem} {a b : Nat} (h1 : a < 23 ∨ 27 ≤ a) : st_drop σ a b = σ a b := by
  unfold st_drop
  split
  · simp (disch := omega) only [fm_mv_ne, fm_up_ne]
  · rfl
theorem relT_drop {μ σ : fm_Mem} (h : relT μ σ) (hb : 0 ≤ μ 0 16 ∧ μ 0 16 ≤ 30) : relT (kdrop μ) (st_drop σ) := by
  obtain ⟨h1, h2⟩ := h
  unfold kdrop st_drop
  rw [h1]
  by_cases e : μ 0 16 = 30
  · rw [if_pos e, if_pos e]
    refine ⟨by simp [fm_mv, fm_up], fun k hk => ?_⟩
    simp at hk
    obtain ⟨q1, q2, q3, q4⟩ := h2 (k + 1) (by omega)
    have z1 : fm_mv (fm_mv (fm_mv (fm_up σ 23 3 29) 24 1 0 29) 25 1 0 29) 26 1 0 29 24 k = σ 24 (k + 1) := by
      simp only [fm_mv, fm_up]
      simp [show k < 29 by omega, Nat.add_comm]
    have z2 : fm_mv (fm_mv (fm_mv (fm_up σ 23 3 29) 24 1 0 29) 25 1 0 29) 26 1 0 29 25 k = σ 25 (k + 1) := by
      simp only [fm_mv, fm_up]
      simp [show k < 29 by omega, Nat.add_comm]
    have z3 : fm_mv (fm_mv (fm_mv (fm_up σ 23 3 29) 24 1 0 29) 25 1 0 29) 26 1 0 29 26 k = σ 26 (k + 1) := by
      simp only [fm_mv, fm_up]
      simp [show k < 29 by omega, Nat.add_comm]
    rw [z1, z2, z3]
    refine ⟨?_, q2, q3, ?_⟩
    · simpa [show k < 29 by omega] using q1
    · simpa [show k < 29 by omega] using q4
  · rw [if_neg e, if_neg e]
    exact ⟨h1, h2⟩
theorem rel_kp {μ σ : fm_Mem} {c i v : Int} (h : rel μ σ) (hc : 0 ≤ c ∧ c < 6) (hi : 0 ≤ i ∧ i < 40) (hb : 0 ≤ μ 0 16 ∧ μ 0 16 ≤ 30) : rel (kp μ (40 * c + i) v) (fm_up (st_keep σ c i (σ (39 + c.toNat) i.toNat)) (39 + c.toNat) i.toNat v) := by
  obtain ⟨a, b, d, e, f, g⟩ := h
  obtain ⟨g1, g2⟩ := relT_drop g hb
  obtain ⟨k1, k2⟩ := kdrop_n hb
  have hw : σ (39 + c.toNat) i.toNat = μ 3 (40 * c + i).toNat := by
    rw [((a.2 c.toNat (by omega)).2 i.toNat (by omega)).2.1]
    congr 1
    omega
  have A : relA (kdrop μ) (st_drop σ) := a.cong (st_drop_o (by omega)) (fun k j q1 q2 => st_drop_o (by omega)) (kdrop_o (by omega) (by omega) (by omega)) (fun j _ => kdrop_o (by omega) (by omega) (by omega)) (fun k j q1 q2 q3 => kdrop_o (by omega) (by omega) (by omega))
  unfold kp st_keep
  rw [g1, hw]
  refine ⟨⟨?_, fun x hx => ⟨?_, fun j hj => ⟨?_, ?_, ?_⟩⟩⟩, b.cong ?_ ?_ ?_ ?_, d.cong ?_ ?_, e.cong ?_ ?_ ?_, f.cong ?_ ?_ ?_ ?_, ⟨?_, fun k hk => ?_⟩⟩
  case refine_1 => simp (disch := omega) only [fm_up_ne, fm_up_nj]; exact A.1
  case refine_2 => simp (disch := omega) only [fm_up_ne, fm_up_nj]; exact (A.2 x hx).1
  case refine_3 => simp (disch := omega) only [fm_up_ne, fm_up_nj]; exact ((A.2 x hx).2 j hj).1
  case refine_4 =>
    refine fm_up_rel (by omega) rfl ?_
    simp (disch := omega) only [fm_up_ne, fm_up_nj]
    exact ((A.2 x hx).2 j hj).2.1
  case refine_5 => simp (disch := omega) only [fm_up_ne, fm_up_nj]; exact ((A.2 x hx).2 j hj).2.2
  case refine_19 => simp (disch := omega) only [fm_up_ne, fm_up_eq]
  case refine_20 =>
    have e1 : fm_up (fm_up (fm_up (fm_up (kdrop μ) 14 (kdrop μ 0 16).toNat (40 * c + i)) 15 (kdrop μ 0 16).toNat (μ 3 (40 * c + i).toNat)) 0 16 (kdrop μ 0 16 + 1)) 3 (40 * c + i).toNat v 0 16 = kdrop μ 0 16 + 1 := by
      simp (disch := omega) only [fm_up_ne, fm_up_eq]
    rw [e1] at hk
    by_cases z : k = (kdrop μ 0 16).toNat
    · subst z
      simp (disch := omega) only [fm_up_ne, fm_up_eq]
      exact ⟨trivial, hc, hi, trivial⟩
    · simp (disch := omega) only [fm_up_ne, fm_up_nj]
      exact g2 k (by omega)
  all_goals (intros; simp (disch := omega) only [fm_up_ne, fm_up_nj])
  all_goals first | exact st_drop_o (by omega) | exact kdrop_o (by omega) (by omega) (by omega)
theorem rel_undo {μ σ : fm_Mem} (h : rel μ σ) (hb : 0 < μ 0 16 ∧ μ 0 16 ≤ 30) : rel (fm_up (fm_up μ 0 16 (μ 0 16 - 1)) 3 (μ 14 (μ 0 16 - 1).toNat).toNat (μ 15 (μ 0 16 - 1).toNat)) (fm_up (fm_up σ 23 3 (μ 0 16 - 1)) (39 + (σ 24 (μ 0 16 - 1).toNat).toNat) (σ 25 (μ 0 16 - 1).toNat).toNat (σ 26 (μ 0 16 - 1).toNat)) := by
  obtain ⟨a, b, d, e, f, g⟩ := h
  obtain ⟨g1, g2⟩ := g
  obtain ⟨q1, q2, q3, q4⟩ := g2 (μ 0 16 - 1).toNat (by omega)
  rw [q4, ← q1]
  refine ⟨⟨?_, fun x hx => ⟨?_, fun j hj => ⟨?_, ?_, ?_⟩⟩⟩, b.cong ?_ ?_ ?_ ?_, d.cong ?_ ?_, e.cong ?_ ?_ ?_, f.cong ?_ ?_ ?_ ?_, ⟨?_, fun k hk => ?_⟩⟩
  case refine_1 => simp (disch := omega) only [fm_up_ne, fm_up_nj]; exact a.1
  case refine_2 => simp (disch := omega) only [fm_up_ne, fm_up_nj]; exact (a.2 x hx).1
  case refine_3 => simp (disch := omega) only [fm_up_ne, fm_up_nj]; exact ((a.2 x hx).2 j hj).1
  case refine_4 =>
    refine fm_up_rel (by omega) rfl ?_
    simp (disch := omega) only [fm_up_ne, fm_up_nj]
    exact ((a.2 x hx).2 j hj).2.1
  case refine_5 => simp (disch := omega) only [fm_up_ne, fm_up_nj]; exact ((a.2 x hx).2 j hj).2.2
  case refine_19 => simp (disch := omega) only [fm_up_ne, fm_up_eq]
  case refine_20 =>
    simp (disch := omega) only [fm_up_ne, fm_up_eq] at hk
    simp (disch := omega) only [fm_up_ne]
    exact g2 k (by omega)
  all_goals (intros; simp (disch := omega) only [fm_up_ne, fm_up_nj])
-- the film's bounds stay
def flo (k : Nat) : Int := if k = 7 ∨ k = 8 ∨ k = 9 then -2147483648 else 0
def fhi (k j : Nat) : Int := if k = 0 then (if j = 0 then 6 else if j = 7 then 12 else if j = 12 then 20 else if j = 16 then 30 else 0) else if k = 1 then 40 else if k = 2 then 63 else if k = 3 then 9 else if k = 4 then 1 else if k = 5 then 5 else if k = 6 then (if j = 0 then 5 else 100) else if k < 10 then 2147483647 else if k = 10 then 9 else if k < 13 then 5 else if k = 13 then 100 else if k = 14 then 239 else 9
def fj (μ : fm_Mem) : Prop := (∀ k j, k < 16 → flo k ≤ μ k j ∧ μ k j ≤ fhi k j) ∧ ∀ c : Nat, c < 6 → μ 0 0 ≤ c → μ 1 c = 0
theorem fj.fi {μ : fm_Mem} (h : fj μ) : fi μ := by
  obtain ⟨b, i3⟩ := h
  refine ⟨by simpa [flo, fhi] using b 0 0 (by omega), fun c _ => by simpa [flo, fhi] using b 1 c (by omega), i3, fun j => by simpa [flo, fhi] using b 2 j (by omega), fun j => by simpa [flo, fhi] using b 3 j (by omega), fun j => by simpa [flo, fhi] using b 4 j (by omega), fun j => by simpa [flo, fhi] using b 5 j (by omega), fun j => ?_, by simpa [flo, fhi] using (b 6 0 (by omega)).2, by simpa [flo, fhi] using b 0 7 (by omega), fun j => ?_, by simpa [flo, fhi] using b 0 12 (by omega), fun j => ⟨by simpa [flo, fhi] using b 11 j (by omega), by simpa [flo, fhi] using b 12 j (by omega), by simpa [flo, fhi] using b 13 j (by omega)⟩, by simpa [flo, fhi] using b 0 16 (by omega), fun j => ⟨?_, by simpa [flo, fhi] using b 15 j (by omega)⟩⟩
  · have := b 6 j (by omega)
    simp only [flo, fhi] at this
    simp at this
    split at this <;> omega
  · have h7 := b 7 j (by omega)
    have h8 := b 8 j (by omega)
    have h9 := b 9 j (by omega)
    have h10 := b 10 j (by omega)
    simp [flo, fhi] at h7 h8 h9 h10
    unfold fm_R
    omega
  · have := b 14 j (by omega)
    simp [flo, fhi] at this
    omega
theorem fj_up {μ : fm_Mem} {k j : Nat} {v : Int} (h : fj μ) (h1 : flo k ≤ v ∧ v ≤ fhi k j) (h2 : k = 1 → j < 6 → (j : Int) < μ 0 0) (h3 : k = 0 → j = 0 → μ 0 0 ≤ v) : fj (fm_up μ k j v) := by
  obtain ⟨b, i3⟩ := h
  refine ⟨fun x y hx => ?_, fun c hc hm => ?_⟩
  · unfold fm_up
    split
    · rename_i q
      rw [q.1, q.2]
      exact h1
    · exact b x y hx
  · have i4 := i3 c hc
    unfold fm_up at hm ⊢
    split at hm <;> split
    · omega
    · rename_i q1 q2
      have := h3 q1.1.symm q1.2.symm
      exact i4 (by omega)
    · rename_i q1 q2
      have := h2 q2.1.symm (by omega)
      omega
    · exact i4 hm
theorem fj_kdrop {μ : fm_Mem} (h : fj μ) : fj (kdrop μ) := by
  unfold kdrop
  split
  · obtain ⟨b, i3⟩ := h
    refine ⟨fun x y hx => ?_, fun c hc hm => ?_⟩
    · simp only
      split
      · rename_i q
        rw [q.1, q.2]
        simp [flo, fhi]
      · split
        · rename_i q
          have h9 := b x (y + 1) hx
          rcases q.1 with e | e
          · subst e; simpa [flo, fhi] using h9
          · subst e; simpa [flo, fhi] using h9
        · exact b x y hx
    · simp at hm ⊢
      exact i3 c hc hm
  · exact h
theorem fj_kp {μ : fm_Mem} {q v : Int} (h : fj μ) (hq : 0 ≤ q ∧ q < 240) (hv : 0 ≤ v ∧ v ≤ 9) : fj (kp μ q v) := by
  have hb := h.1 0 16 (by omega)
  simp [flo, fhi] at hb
  obtain ⟨k1, k2⟩ := kdrop_n hb
  have hw := h.1 3 q.toNat (by omega)
  simp [flo, fhi] at hw
  unfold kp
  refine fj_up (fj_up (fj_up (fj_up (fj_kdrop h) ?_ (by omega) (by omega)) ?_ (by omega) (by omega)) ?_ (by omega) (by omega)) ?_ (by omega) (by omega)
  · simp [flo, fhi]; omega
  · simp [flo, fhi]; omega
  · simp [flo, fhi]; omega
  · simp [flo, fhi]; omega
theorem fj_lay {μ : fm_Mem} {c m v cam : Int} (h : fj μ) (hc : 0 ≤ c ∧ c < μ 0 0) (hn : μ 1 c.toNat < 40) (h1 : 0 ≤ m ∧ m ≤ 63) (h2 : 0 ≤ v ∧ v ≤ 9) (h3 : 0 ≤ cam ∧ cam ≤ 1) : fj (lay μ c m v cam) := by
  have hb := h.1 1 c.toNat (by omega)
  simp [flo, fhi] at hb
  unfold lay
  refine fj_up (fj_up (fj_up (fj_up h ?_ (by omega) (by omega)) ?_ (by omega) (by omega)) ?_ (by omega) (by omega)) ?_ ?_ (by omega)
  · simp [flo, fhi]; omega
  · simp [flo, fhi]; omega
  · simp [flo, fhi]; omega
  · simp [flo, fhi]; omega
  · intro _ _
    simp (disch := omega) only [fm_up_ne]
    omega
theorem fj_sam {μ μ' : fm_Mem} (h : fj μ) (hs : sam μ μ') : fj μ' := by
  have z : ∀ k j, k < 16 → μ' k j = μ k j := hs
  refine ⟨fun x y hx => by rw [z x y hx]; exact h.1 x y hx, fun c hc hm => ?_⟩
  rw [z _ _ (by omega)] at hm ⊢
  exact h.2 c hc hm
end
section
set_option maxRecDepth 20000 in
set_option maxHeartbeats 4000000 in
theorem k_X8_copy {ω : fm_O} {σ : fm_Mem} {μ : fm_Mem} (hi : fj μ) (h : rel μ σ)  : fm_Met kc ω yX8_copy cX8_copy 1 (some .int) (fm_rm 0) [fm_r ω 0] σ (fm_pI fun z σ' => z = (sp_copy μ).1 ∧ rel (sp_copy μ).2 σ') := by
  refine fm_start (by decide) rfl (Nat.le_of_ble_eq_true rfl) [some (fm_r ω 0)] rfl (fun Γ => ?_)
  have hf := hi.fi
  have hw := rel.cw hf h
  have e0 := h.1.1
  have b0 := hf.1
  refine fm_ald0 dX8_copy_0 ?_
  refine gi_7_1 dX8_copy_1 fd_X8_64 ?_
  try simp (disch := omega) only [fm_up_ne, fm_up_nj, fm_up_eq]
  refine fm_bipush (by decide) dX8_copy_4 ?_
  refine fm_icmp_lt (⟨by omega, by omega⟩) (⟨by omega, by omega⟩) 12 dX8_copy_6 (by decide) (fun h6 => ?_) (fun h6 => ?_)
  · refine fm_ald0 dX8_copy_12 ?_
    refine fm_dupR dX8_copy_13 ?_
    refine gi_7_1 dX8_copy_14 fd_X8_64 ?_
    try simp (disch := omega) only [fm_up_ne, fm_up_nj, fm_up_eq]
    refine fm_iconst dX8_copy_17 ?_
    refine fm_iadd dX8_copy_18 ?_
    refine pf_7_1 dX8_copy_19 fd_X8_64 ?_
    refine fm_ald0 dX8_copy_22 ?_
    refine gi_7_1 dX8_copy_23 fd_X8_64 ?_
    try simp (disch := omega) only [fm_up_ne, fm_up_nj, fm_up_eq]
    refine fm_iconst dX8_copy_26 ?_
    refine fm_isub dX8_copy_27 ?_
    refine fm_iretI dX8_copy_28 rfl ?_
    unfold sp_copy
    first
      | (rw [if_pos (by omega)]; exact ⟨by omega, h⟩)
      | (rw [if_neg (by omega)]; exact ⟨by omega, by rw [e0]; exact rel_copy h⟩)
  · refine fm_bipush (by decide) dX8_copy_9 ?_
    refine fm_iretI dX8_copy_11 rfl ?_
    unfold sp_copy
    first
      | (rw [if_pos (by omega)]; exact ⟨by omega, h⟩)
      | (rw [if_neg (by omega)]; exact ⟨by omega, by rw [e0]; exact rel_copy h⟩)
set_option maxRecDepth 20000 in
set_option maxHeartbeats 4000000 in
theorem k_X8_frame {ω : fm_O} {σ : fm_Mem} {μ : fm_Mem} (hi : fj μ) (h : rel μ σ) {c m v cam : Int} (rc : fm_R c) (rm : fm_R m) (rv : fm_R v) (rcam : fm_R cam) : fm_Met kc ω yX8_frame cX8_frame 6 (some .int) (fm_rm 1) [fm_r ω 0, fm_I c, fm_I m, fm_I v, fm_I cam] σ (fm_pI fun z σ' => z = (sp_frame μ c m v cam).1 ∧ rel (sp_frame μ c m v cam).2 σ') := by
  refine fm_start (by decide) rfl (Nat.le_of_ble_eq_true rfl) [some (fm_r ω 0), some (fm_I c), some (fm_I m), some (fm_I v), some (fm_I cam), none] rfl (fun Γ => ?_)
  have hf := hi.fi
  have hw := rel.cw hf h
  have e0 := h.1.1
  have b0 := hf.1
  refine fm_ald0 dX8_frame_0 ?_
  refine fm_ild1 dX8_frame_1 ?_
  refine fm_cvI dX8_frame_2 cl_X8_68 (k_X8_isCopy ⟨by omega, by omega⟩ hw) ob_0 rfl rfl (by decide) rfl rfl (Nat.le_of_ble_eq_true rfl) (fun z2 s2 q2 => ?_)
  obtain ⟨q2, rfl⟩ := q2
  refine fm_if_eq (⟨by omega, by omega⟩) 35 dX8_frame_5 (by decide) (fun h5 => ?_) (fun h5 => ?_)
  · refine fm_iconst dX8_frame_35 ?_
    refine fm_iretI dX8_frame_36 rfl ?_
    unfold sp_frame
    first
      | (rw [if_pos (by omega)]; exact ⟨by omega, h⟩)
      | (rw [if_neg (by omega), if_pos (by omega)]; exact ⟨by omega, h⟩)
      | (rw [if_neg (by omega), if_neg (by omega)]; exact ⟨by simp only [fm_up_eq]; omega, rel_lay h (by omega) (by omega)⟩)
  · refine fm_ild2 dX8_frame_8 ?_
    refine fm_bipush (by decide) dX8_frame_9 ?_
    refine fm_csI dX8_frame_11 cl_X8_72 (k_X8_isWithin ⟨by omega, by omega⟩ ⟨by omega, by omega⟩) rfl rfl (by decide) rfl rfl (Nat.le_of_ble_eq_true rfl) (fun z11 s11 q11 => ?_)
    obtain ⟨q11, rfl⟩ := q11
    refine fm_if_eq (⟨by omega, by omega⟩) 35 dX8_frame_14 (by decide) (fun h14 => ?_) (fun h14 => ?_)
    · refine fm_iconst dX8_frame_35 ?_
      refine fm_iretI dX8_frame_36 rfl ?_
      unfold sp_frame
      first
        | (rw [if_pos (by omega)]; exact ⟨by omega, h⟩)
        | (rw [if_neg (by omega), if_pos (by omega)]; exact ⟨by omega, h⟩)
        | (rw [if_neg (by omega), if_neg (by omega)]; exact ⟨by simp only [fm_up_eq]; omega, rel_lay h (by omega) (by omega)⟩)
    · refine fm_ild3 dX8_frame_17 ?_
      refine fm_bipush (by decide) dX8_frame_18 ?_
      refine fm_csI dX8_frame_20 cl_X8_72 (k_X8_isWithin ⟨by omega, by omega⟩ ⟨by omega, by omega⟩) rfl rfl (by decide) rfl rfl (Nat.le_of_ble_eq_true rfl) (fun z20 s20 q20 => ?_)
      obtain ⟨q20, rfl⟩ := q20
      refine fm_if_eq (⟨by omega, by omega⟩) 35 dX8_frame_23 (by decide) (fun h23 => ?_) (fun h23 => ?_)
      · refine fm_iconst dX8_frame_35 ?_
        refine fm_iretI dX8_frame_36 rfl ?_
        unfold sp_frame
        first
          | (rw [if_pos (by omega)]; exact ⟨by omega, h⟩)
          | (rw [if_neg (by omega), if_pos (by omega)]; exact ⟨by omega, h⟩)
          | (rw [if_neg (by omega), if_neg (by omega)]; exact ⟨by simp only [fm_up_eq]; omega, rel_lay h (by omega) (by omega)⟩)
      · refine fm_ild4 dX8_frame_26 ?_
        refine fm_iconst dX8_frame_28 ?_
        refine fm_csI dX8_frame_29 cl_X8_72 (k_X8_isWithin ⟨by omega, by omega⟩ ⟨by omega, by omega⟩) rfl rfl (by decide) rfl rfl (Nat.le_of_ble_eq_true rfl) (fun z29 s29 q29 => ?_)
        obtain ⟨q29, rfl⟩ := q29
        refine fm_if_ne (⟨by omega, by omega⟩) 37 dX8_frame_32 (by decide) (fun h32 => ?_) (fun h32 => ?_)
        · refine fm_ald0 dX8_frame_37 ?_
          refine gr_7_0 dX8_frame_38 fd_X8_11 ?_
          refine fm_ild1 dX8_frame_41 ?_
          have hs := hf.2.1 c.toNat (by omega)
          have es := (h.1.2 c.toNat (by omega)).1
          refine ar_1 (by omega) (by omega) dX8_frame_42 ?_
          refine fm_ast5 rfl dX8_frame_43 ?_
          refine fm_ald5 dX8_frame_45 ?_
          refine fm_iconst dX8_frame_47 ?_
          refine fm_cvI dX8_frame_48 cl_X8_76 (k_X3_hasRoomFor (by omega) hw (by omega)) (ob_reel (by omega)) rfl rfl (by decide) rfl rfl (Nat.le_of_ble_eq_true rfl) (fun z48 s48 q48 => ?_)
          obtain ⟨q48, rfl⟩ := q48
          refine fm_if_ne (⟨by omega, by omega⟩) 57 dX8_frame_51 (by decide) (fun h51 => ?_) (fun h51 => ?_)
          · refine fm_ald5 dX8_frame_57 ?_
            refine fm_ild2 dX8_frame_59 ?_
            refine fm_ild3 dX8_frame_60 ?_
            refine fm_ild4 dX8_frame_61 ?_
            refine fm_cvN dX8_frame_63 cl_X8_79 (k_X3_append (by omega) (by omega) (by omega)) (ob_reel (by omega)) rfl rfl (by decide) rfl rfl (Nat.le_of_ble_eq_true rfl) (fun s63 q63 => ?_)
            subst q63
            refine fm_ald5 dX8_frame_66 ?_
            refine gi_3_3 (by omega) dX8_frame_68 fd_X8_83 ?_
            refine fm_iretI dX8_frame_71 rfl ?_
            unfold sp_frame
            first
              | (rw [if_pos (by omega)]; exact ⟨by omega, h⟩)
              | (rw [if_neg (by omega), if_pos (by omega)]; exact ⟨by omega, h⟩)
              | (rw [if_neg (by omega), if_neg (by omega)]; exact ⟨by simp only [fm_up_eq]; omega, rel_lay h (by omega) (by omega)⟩)
          · refine fm_bipush (by decide) dX8_frame_54 ?_
            refine fm_iretI dX8_frame_56 rfl ?_
            unfold sp_frame
            first
              | (rw [if_pos (by omega)]; exact ⟨by omega, h⟩)
              | (rw [if_neg (by omega), if_pos (by omega)]; exact ⟨by omega, h⟩)
              | (rw [if_neg (by omega), if_neg (by omega)]; exact ⟨by simp only [fm_up_eq]; omega, rel_lay h (by omega) (by omega)⟩)
        · refine fm_iconst dX8_frame_35 ?_
          refine fm_iretI dX8_frame_36 rfl ?_
          unfold sp_frame
          first
            | (rw [if_pos (by omega)]; exact ⟨by omega, h⟩)
            | (rw [if_neg (by omega), if_pos (by omega)]; exact ⟨by omega, h⟩)
            | (rw [if_neg (by omega), if_neg (by omega)]; exact ⟨by simp only [fm_up_eq]; omega, rel_lay h (by omega) (by omega)⟩)
set_option maxRecDepth 20000 in
set_option maxHeartbeats 4000000 in
theorem k_X8_at {ω : fm_O} {σ : fm_Mem} {μ : fm_Mem} (hi : fj μ) (h : rel μ σ) {c i t : Int} (rc : fm_R c) (ri : fm_R i) (rt : fm_R t) : fm_Met kc ω yX8_at cX8_at 5 (some .int) (fm_rm 2) [fm_r ω 0, fm_I c, fm_I i, fm_I t] σ (fm_pI fun z σ' => z = sp_at μ c i t ∧ rel μ σ') := by
  refine fm_start (by decide) rfl (Nat.le_of_ble_eq_true rfl) [some (fm_r ω 0), some (fm_I c), some (fm_I i), some (fm_I t), none] rfl (fun Γ => ?_)
  have hf := hi.fi
  have hw := rel.cw hf h
  have e0 := h.1.1
  have b0 := hf.1
  refine fm_ald0 dX8_at_0 ?_
  refine fm_ild1 dX8_at_1 ?_
  refine fm_ild2 dX8_at_2 ?_
  refine fm_cvI dX8_at_3 cl_X8_106 (k_X8_isFrame ⟨by omega, by omega⟩ ⟨by omega, by omega⟩ hw) ob_0 rfl rfl (by decide) rfl rfl (Nat.le_of_ble_eq_true rfl) (fun z3 s3 q3 => ?_)
  obtain ⟨q3, rfl⟩ := q3
  have es2 : 0 ≤ c ∧ c < 6 → σ (27 + c.toNat) 3 = μ 1 c.toNat := fun q => (h.1.2 c.toNat (by omega)).1
  refine fm_if_ne (⟨by omega, by omega⟩) 11 dX8_at_6 (by decide) (fun h6 => ?_) (fun h6 => ?_)
  · refine fm_ald0 dX8_at_11 ?_
    refine gr_7_0 dX8_at_12 fd_X8_11 ?_
    refine fm_ild1 dX8_at_15 ?_
    have hs := hf.2.1 c.toNat (by omega)
    have es := (h.1.2 c.toNat (by omega)).1
    have ew := (h.1.2 c.toNat (by omega)).2 i.toNat (by omega)
    have ei : 40 * c.toNat + i.toNat = (40 * c + i).toNat := by omega
    refine ar_1 (by omega) (by omega) dX8_at_16 ?_
    refine fm_ast4 rfl dX8_at_17 ?_
    refine fm_ild3 dX8_at_19 ?_
    rcases (show t = 0 ∨ t = 1 ∨ t = 2 ∨ (t < 0 ∨ 2 < t) by omega) with hsw | hsw | hsw | hsw
    · refine fm_tabIn (off := 28) 48 dX8_at_20 (⟨by omega, by omega⟩) (by omega) (by omega) (by rw [hsw]; rfl) (by decide) ?_
      refine fm_ald4 dX8_at_48 ?_
      refine gr_3_0 (by omega) dX8_at_50 fd_X8_109 ?_
      refine fm_ild2 dX8_at_53 ?_
      refine fm_iald dX8_at_54 (ia_rm (by omega)) (by omega) (by omega) ?_
      refine fm_iretI dX8_at_55 rfl ?_
      unfold sp_at
      first
        | (rw [if_pos (by omega)]; exact ⟨by omega, h⟩)
        | (rw [if_neg (by omega), if_pos (by omega)]; exact ⟨by rw [ew.1, ei], h⟩)
        | (rw [if_neg (by omega), if_neg (by omega), if_pos (by omega)]; exact ⟨by rw [ew.2.1, ei], h⟩)
        | (rw [if_neg (by omega), if_neg (by omega), if_neg (by omega)]; exact ⟨by rw [ew.2.2, ei], h⟩)
    · refine fm_tabIn (off := 36) 56 dX8_at_20 (⟨by omega, by omega⟩) (by omega) (by omega) (by rw [hsw]; rfl) (by decide) ?_
      refine fm_ald4 dX8_at_56 ?_
      refine gr_3_1 (by omega) dX8_at_58 fd_X8_112 ?_
      refine fm_ild2 dX8_at_61 ?_
      refine fm_iald dX8_at_62 (ia_rw (by omega)) (by omega) (by omega) ?_
      refine fm_iretI dX8_at_63 rfl ?_
      unfold sp_at
      first
        | (rw [if_pos (by omega)]; exact ⟨by omega, h⟩)
        | (rw [if_neg (by omega), if_pos (by omega)]; exact ⟨by rw [ew.1, ei], h⟩)
        | (rw [if_neg (by omega), if_neg (by omega), if_pos (by omega)]; exact ⟨by rw [ew.2.1, ei], h⟩)
        | (rw [if_neg (by omega), if_neg (by omega), if_neg (by omega)]; exact ⟨by rw [ew.2.2, ei], h⟩)
    · refine fm_tabIn (off := 44) 64 dX8_at_20 (⟨by omega, by omega⟩) (by omega) (by omega) (by rw [hsw]; rfl) (by decide) ?_
      refine fm_ald4 dX8_at_64 ?_
      refine gr_3_2 (by omega) dX8_at_66 fd_X8_115 ?_
      refine fm_ild2 dX8_at_69 ?_
      refine fm_iald dX8_at_70 (ia_rc (by omega)) (by omega) (by omega) ?_
      refine fm_iretI dX8_at_71 rfl ?_
      unfold sp_at
      first
        | (rw [if_pos (by omega)]; exact ⟨by omega, h⟩)
        | (rw [if_neg (by omega), if_pos (by omega)]; exact ⟨by rw [ew.1, ei], h⟩)
        | (rw [if_neg (by omega), if_neg (by omega), if_pos (by omega)]; exact ⟨by rw [ew.2.1, ei], h⟩)
        | (rw [if_neg (by omega), if_neg (by omega), if_neg (by omega)]; exact ⟨by rw [ew.2.2, ei], h⟩)
    · refine fm_tabOut (⟨by omega, by omega⟩) 72 dX8_at_20 hsw (by decide) ?_
      refine fm_iconst dX8_at_72 ?_
      refine fm_iretI dX8_at_73 rfl ?_
      unfold sp_at
      first
        | (rw [if_pos (by omega)]; exact ⟨by omega, h⟩)
        | (rw [if_neg (by omega), if_pos (by omega)]; exact ⟨by rw [ew.1, ei], h⟩)
        | (rw [if_neg (by omega), if_neg (by omega), if_pos (by omega)]; exact ⟨by rw [ew.2.1, ei], h⟩)
        | (rw [if_neg (by omega), if_neg (by omega), if_neg (by omega)]; exact ⟨by rw [ew.2.2, ei], h⟩)
  · refine fm_iconst dX8_at_9 ?_
    refine fm_iretI dX8_at_10 rfl ?_
    unfold sp_at
    first
      | (rw [if_pos (by omega)]; exact ⟨by omega, h⟩)
      | (rw [if_neg (by omega), if_pos (by omega)]; exact ⟨by rw [ew.1, ei], h⟩)
      | (rw [if_neg (by omega), if_neg (by omega), if_pos (by omega)]; exact ⟨by rw [ew.2.1, ei], h⟩)
      | (rw [if_neg (by omega), if_neg (by omega), if_neg (by omega)]; exact ⟨by rw [ew.2.2, ei], h⟩)
set_option maxRecDepth 20000 in
set_option maxHeartbeats 4000000 in
theorem k_X8_wear {ω : fm_O} {σ : fm_Mem} {μ : fm_Mem} (hi : fj μ) (h : rel μ σ) {c i v : Int} (rc : fm_R c) (ri : fm_R i) (rv : fm_R v) : fm_Met kc ω yX8_wear cX8_wear 5 (some .int) (fm_rm 5) [fm_r ω 0, fm_I c, fm_I i, fm_I v] σ (fm_pI fun z σ' => z = (sp_wear μ c i v).1 ∧ rel (sp_wear μ c i v).2 σ') := by
  refine fm_start (by decide) rfl (Nat.le_of_ble_eq_true rfl) [some (fm_r ω 0), some (fm_I c), some (fm_I i), some (fm_I v), none] rfl (fun Γ => ?_)
  have hf := hi.fi
  have hw := rel.cw hf h
  have e0 := h.1.1
  have b0 := hf.1
  refine fm_ald0 dX8_wear_0 ?_
  refine fm_ild1 dX8_wear_1 ?_
  refine fm_ild2 dX8_wear_2 ?_
  refine fm_cvI dX8_wear_3 cl_X8_106 (k_X8_isFrame ⟨by omega, by omega⟩ ⟨by omega, by omega⟩ hw) ob_0 rfl rfl (by decide) rfl rfl (Nat.le_of_ble_eq_true rfl) (fun z3 s3 q3 => ?_)
  obtain ⟨q3, rfl⟩ := q3
  have es2 : 0 ≤ c ∧ c < 6 → σ (27 + c.toNat) 3 = μ 1 c.toNat := fun q => (h.1.2 c.toNat (by omega)).1
  refine fm_if_eq (⟨by omega, by omega⟩) 18 dX8_wear_6 (by decide) (fun h6 => ?_) (fun h6 => ?_)
  · refine fm_iconst dX8_wear_18 ?_
    refine fm_iretI dX8_wear_19 rfl ?_
    unfold sp_wear
    first
      | (rw [if_pos (by omega)]; exact ⟨by omega, h⟩)
      | (rw [if_neg (by omega)]; exact ⟨by rw [ew.2.1, ei], rel_kp h (by omega) (by omega) (by omega)⟩)
  · refine fm_ild3 dX8_wear_9 ?_
    refine fm_bipush (by decide) dX8_wear_10 ?_
    refine fm_csI dX8_wear_12 cl_X8_72 (k_X8_isWithin ⟨by omega, by omega⟩ ⟨by omega, by omega⟩) rfl rfl (by decide) rfl rfl (Nat.le_of_ble_eq_true rfl) (fun z12 s12 q12 => ?_)
    obtain ⟨q12, rfl⟩ := q12
    refine fm_if_ne (⟨by omega, by omega⟩) 20 dX8_wear_15 (by decide) (fun h15 => ?_) (fun h15 => ?_)
    · refine fm_ald0 dX8_wear_20 ?_
      refine gr_7_0 dX8_wear_21 fd_X8_11 ?_
      refine fm_ild1 dX8_wear_24 ?_
      have hs := hf.2.1 c.toNat (by omega)
      have es := (h.1.2 c.toNat (by omega)).1
      have ew := (h.1.2 c.toNat (by omega)).2 i.toNat (by omega)
      have ei : 40 * c.toNat + i.toNat = (40 * c + i).toNat := by omega
      have et := h.2.2.2.2.2.1
      have bt := hf.2.2.2.2.2.2.2.2.2.2.2.2.2.1
      refine ar_1 (by omega) (by omega) dX8_wear_25 ?_
      refine gr_3_1 (by omega) dX8_wear_26 fd_X8_112 ?_
      refine fm_ild2 dX8_wear_29 ?_
      refine fm_iald dX8_wear_30 (ia_rw (by omega)) (by omega) (by omega) ?_
      refine fm_ist4 rfl dX8_wear_31 ?_
      refine fm_ald0 dX8_wear_33 ?_
      refine fm_ild1 dX8_wear_34 ?_
      refine fm_ild2 dX8_wear_35 ?_
      refine fm_ild3 dX8_wear_36 ?_
      refine fm_cvN dX8_wear_37 cl_X8_118 (k_X8_changeWear (by omega) (by omega) (by omega) (by omega)) ob_0 rfl rfl (by decide) rfl rfl (Nat.le_of_ble_eq_true rfl) (fun s37 q37 => ?_)
      subst q37
      refine fm_ild4 dX8_wear_40 ?_
      refine fm_iretI dX8_wear_42 rfl ?_
      unfold sp_wear
      first
        | (rw [if_pos (by omega)]; exact ⟨by omega, h⟩)
        | (rw [if_neg (by omega)]; exact ⟨by rw [ew.2.1, ei], rel_kp h (by omega) (by omega) (by omega)⟩)
    · refine fm_iconst dX8_wear_18 ?_
      refine fm_iretI dX8_wear_19 rfl ?_
      unfold sp_wear
      first
        | (rw [if_pos (by omega)]; exact ⟨by omega, h⟩)
        | (rw [if_neg (by omega)]; exact ⟨by rw [ew.2.1, ei], rel_kp h (by omega) (by omega) (by omega)⟩)
set_option maxRecDepth 20000 in
set_option maxHeartbeats 4000000 in
theorem k_X8_place {ω : fm_O} {σ : fm_Mem} {μ : fm_Mem} (hi : fj μ) (h : rel μ σ) {m s : Int} (rm : fm_R m) (rs : fm_R s) : fm_Met kc ω yX8_place cX8_place 3 (some .int) (fm_rm 1) [fm_r ω 0, fm_I m, fm_I s] σ (fm_pI fun z σ' => z = (sp_place μ m s).1 ∧ rel (sp_place μ m s).2 σ') := by
  refine fm_start (by decide) rfl (Nat.le_of_ble_eq_true rfl) [some (fm_r ω 0), some (fm_I m), some (fm_I s)] rfl (fun Γ => ?_)
  have hf := hi.fi
  have hw := rel.cw hf h
  have e0 := h.1.1
  have b0 := hf.1
  have e6 := h.2.1.1
  have b6 := hf.2.1 6 (by omega)
  refine fm_ild1 dX8_place_0 ?_
  refine fm_bipush (by decide) dX8_place_1 ?_
  refine fm_csI dX8_place_3 cl_X8_72 (k_X8_isWithin ⟨by omega, by omega⟩ ⟨by omega, by omega⟩) rfl rfl (by decide) rfl rfl (Nat.le_of_ble_eq_true rfl) (fun z3 s3 q3 => ?_)
  obtain ⟨q3, rfl⟩ := q3
  refine fm_if_eq (⟨by omega, by omega⟩) 17 dX8_place_6 (by decide) (fun h6 => ?_) (fun h6 => ?_)
  · refine fm_iconst dX8_place_17 ?_
    refine fm_iretI dX8_place_18 rfl ?_
    unfold sp_place
    first
      | (rw [if_pos (by omega)]; exact ⟨by omega, h⟩)
      | (rw [if_neg (by omega), if_pos (by omega)]; exact ⟨by omega, h⟩)
      | (rw [if_neg (by omega), if_neg (by omega)]; exact ⟨by simp only [fm_up_eq]; omega, rel_place h (by omega)⟩)
  · refine fm_ild2 dX8_place_9 ?_
    refine fm_iconst dX8_place_10 ?_
    refine fm_csI dX8_place_11 cl_X8_72 (k_X8_isWithin ⟨by omega, by omega⟩ ⟨by omega, by omega⟩) rfl rfl (by decide) rfl rfl (Nat.le_of_ble_eq_true rfl) (fun z11 s11 q11 => ?_)
    obtain ⟨q11, rfl⟩ := q11
    refine fm_if_ne (⟨by omega, by omega⟩) 19 dX8_place_14 (by decide) (fun h14 => ?_) (fun h14 => ?_)
    · refine fm_ald0 dX8_place_19 ?_
      refine gr_7_2 dX8_place_20 fd_X8_18 ?_
      refine gi_4_2 dX8_place_23 fd_X8_121 ?_
      refine fm_bipush (by decide) dX8_place_26 ?_
      refine fm_icmp_lt (⟨by omega, by omega⟩) (⟨by omega, by omega⟩) 34 dX8_place_28 (by decide) (fun h28 => ?_) (fun h28 => ?_)
      · refine fm_ald0 dX8_place_34 ?_
        refine gr_7_2 dX8_place_35 fd_X8_18 ?_
        refine fm_ild1 dX8_place_38 ?_
        refine fm_ild2 dX8_place_39 ?_
        refine fm_cvN dX8_place_40 cl_X8_122 (k_X4_append (by omega) (by omega)) ob_2 rfl rfl (by decide) rfl rfl (Nat.le_of_ble_eq_true rfl) (fun s40 q40 => ?_)
        subst q40
        refine fm_ald0 dX8_place_43 ?_
        refine gr_7_2 dX8_place_44 fd_X8_18 ?_
        refine gi_4_2 dX8_place_47 fd_X8_121 ?_
        refine fm_iretI dX8_place_50 rfl ?_
        unfold sp_place
        first
          | (rw [if_pos (by omega)]; exact ⟨by omega, h⟩)
          | (rw [if_neg (by omega), if_pos (by omega)]; exact ⟨by omega, h⟩)
          | (rw [if_neg (by omega), if_neg (by omega)]; exact ⟨by simp only [fm_up_eq]; omega, rel_place h (by omega)⟩)
      · refine fm_bipush (by decide) dX8_place_31 ?_
        refine fm_iretI dX8_place_33 rfl ?_
        unfold sp_place
        first
          | (rw [if_pos (by omega)]; exact ⟨by omega, h⟩)
          | (rw [if_neg (by omega), if_pos (by omega)]; exact ⟨by omega, h⟩)
          | (rw [if_neg (by omega), if_neg (by omega)]; exact ⟨by simp only [fm_up_eq]; omega, rel_place h (by omega)⟩)
    · refine fm_iconst dX8_place_17 ?_
      refine fm_iretI dX8_place_18 rfl ?_
      unfold sp_place
      first
        | (rw [if_pos (by omega)]; exact ⟨by omega, h⟩)
        | (rw [if_neg (by omega), if_pos (by omega)]; exact ⟨by omega, h⟩)
        | (rw [if_neg (by omega), if_neg (by omega)]; exact ⟨by simp only [fm_up_eq]; omega, rel_place h (by omega)⟩)
set_option maxRecDepth 20000 in
set_option maxHeartbeats 4000000 in
theorem k_X8_noScript {ω : fm_O} {σ : fm_Mem} {μ : fm_Mem} (hi : fj μ) (h : rel μ σ)  : fm_Met kc ω yX8_noScript cX8_noScript 2 (some .int) (fm_rm 0) [fm_r ω 0] σ (fm_pI fun z σ' => z = (sp_noScript μ).1 ∧ rel (sp_noScript μ).2 σ') := by
  refine fm_start (by decide) rfl (Nat.le_of_ble_eq_true rfl) [some (fm_r ω 0), none] rfl (fun Γ => ?_)
  have hf := hi.fi
  have hw := rel.cw hf h
  have e0 := h.1.1
  have b0 := hf.1
  refine fm_ald0 dX8_noScript_0 ?_
  refine gr_7_2 dX8_noScript_1 fd_X8_18 ?_
  refine gi_4_2 dX8_noScript_4 fd_X8_121 ?_
  try simp (disch := omega) only [fm_up_ne, fm_up_nj, fm_up_eq]
  refine fm_ist1 rfl dX8_noScript_7 ?_
  refine fm_ald0 dX8_noScript_8 ?_
  refine gr_7_2 dX8_noScript_9 fd_X8_18 ?_
  refine fm_iconst dX8_noScript_12 ?_
  refine pf_4_2 dX8_noScript_13 fd_X8_121 ?_
  refine fm_ild1 dX8_noScript_16 ?_
  exact fm_iretI dX8_noScript_17 rfl ⟨h.2.1.1, rel_noScript h⟩
set_option maxRecDepth 20000 in
set_option maxHeartbeats 4000000 in
theorem k_X8_note {ω : fm_O} {σ : fm_Mem} {μ : fm_Mem} (hi : fj μ) (h : rel μ σ) {c a b t : Int} (rc : fm_R c) (ra : fm_R a) (rb : fm_R b) (rt : fm_R t) : fm_Met kc ω yX8_note cX8_note 5 (some .int) (fm_rm 2) [fm_r ω 0, fm_I c, fm_I a, fm_I b, fm_I t] σ (fm_pI fun z σ' => z = (sp_note μ c a b t).1 ∧ rel (sp_note μ c a b t).2 σ') := by
  refine fm_start (by decide) rfl (Nat.le_of_ble_eq_true rfl) [some (fm_r ω 0), some (fm_I c), some (fm_I a), some (fm_I b), some (fm_I t)] rfl (fun Γ => ?_)
  have hf := hi.fi
  have hw := rel.cw hf h
  have e0 := h.1.1
  have b0 := hf.1
  have e7 := h.2.2.2.1.1
  have b7 := hf.2.2.2.2.2.2.2.2.2.1
  have es2 : 0 ≤ c ∧ c < 6 → σ (27 + c.toNat) 3 = μ 1 c.toNat := fun q => (h.1.2 c.toNat (by omega)).1
  refine fm_ald0 dX8_note_0 ?_
  refine fm_ild1 dX8_note_1 ?_
  refine fm_ild2 dX8_note_2 ?_
  refine fm_cvI dX8_note_3 cl_X8_106 (k_X8_isFrame ⟨by omega, by omega⟩ ⟨by omega, by omega⟩ hw) ob_0 rfl rfl (by decide) rfl rfl (Nat.le_of_ble_eq_true rfl) (fun z3 s3 q3 => ?_)
  obtain ⟨q3, rfl⟩ := q3
  refine fm_if_eq (⟨by omega, by omega⟩) 36 dX8_note_6 (by decide) (fun h6 => ?_) (fun h6 => ?_)
  · refine fm_iconst dX8_note_36 ?_
    refine fm_iretI dX8_note_37 rfl ?_
    unfold sp_note
    first
      | (rw [if_pos (by omega)]; exact ⟨by omega, h⟩)
      | (rw [if_neg (by omega), if_pos (by omega)]; exact ⟨by omega, h⟩)
      | (rw [if_neg (by omega), if_neg (by omega)]; exact ⟨by simp only [fm_up_eq]; omega, rel_note h (by omega)⟩)
  · refine fm_ald0 dX8_note_9 ?_
    refine fm_ild1 dX8_note_10 ?_
    refine fm_ild3 dX8_note_11 ?_
    refine fm_cvI dX8_note_12 cl_X8_106 (k_X8_isFrame ⟨by omega, by omega⟩ ⟨by omega, by omega⟩ hw) ob_0 rfl rfl (by decide) rfl rfl (Nat.le_of_ble_eq_true rfl) (fun z12 s12 q12 => ?_)
    obtain ⟨q12, rfl⟩ := q12
    refine fm_if_eq (⟨by omega, by omega⟩) 36 dX8_note_15 (by decide) (fun h15 => ?_) (fun h15 => ?_)
    · refine fm_iconst dX8_note_36 ?_
      refine fm_iretI dX8_note_37 rfl ?_
      unfold sp_note
      first
        | (rw [if_pos (by omega)]; exact ⟨by omega, h⟩)
        | (rw [if_neg (by omega), if_pos (by omega)]; exact ⟨by omega, h⟩)
        | (rw [if_neg (by omega), if_neg (by omega)]; exact ⟨by simp only [fm_up_eq]; omega, rel_note h (by omega)⟩)
    · refine fm_ild2 dX8_note_18 ?_
      refine fm_ild3 dX8_note_19 ?_
      refine fm_icmp_gt (⟨by omega, by omega⟩) (⟨by omega, by omega⟩) 36 dX8_note_20 (by decide) (fun h20 => ?_) (fun h20 => ?_)
      · refine fm_iconst dX8_note_36 ?_
        refine fm_iretI dX8_note_37 rfl ?_
        unfold sp_note
        first
          | (rw [if_pos (by omega)]; exact ⟨by omega, h⟩)
          | (rw [if_neg (by omega), if_pos (by omega)]; exact ⟨by omega, h⟩)
          | (rw [if_neg (by omega), if_neg (by omega)]; exact ⟨by simp only [fm_up_eq]; omega, rel_note h (by omega)⟩)
      · refine fm_ild4 dX8_note_23 ?_
        refine fm_iconst dX8_note_25 ?_
        refine fm_icmp_lt (⟨by omega, by omega⟩) (⟨by omega, by omega⟩) 36 dX8_note_26 (by decide) (fun h26 => ?_) (fun h26 => ?_)
        · refine fm_iconst dX8_note_36 ?_
          refine fm_iretI dX8_note_37 rfl ?_
          unfold sp_note
          first
            | (rw [if_pos (by omega)]; exact ⟨by omega, h⟩)
            | (rw [if_neg (by omega), if_pos (by omega)]; exact ⟨by omega, h⟩)
            | (rw [if_neg (by omega), if_neg (by omega)]; exact ⟨by simp only [fm_up_eq]; omega, rel_note h (by omega)⟩)
        · refine fm_ild4 dX8_note_29 ?_
          refine fm_bipush (by decide) dX8_note_31 ?_
          refine fm_icmp_le (⟨by omega, by omega⟩) (⟨by omega, by omega⟩) 38 dX8_note_33 (by decide) (fun h33 => ?_) (fun h33 => ?_)
          · refine fm_ald0 dX8_note_38 ?_
            refine gr_7_6 dX8_note_39 fd_X8_36 ?_
            refine gi_2_4 dX8_note_42 fd_X8_187 ?_
            refine fm_bipush (by decide) dX8_note_45 ?_
            refine fm_icmp_lt (⟨by omega, by omega⟩) (⟨by omega, by omega⟩) 53 dX8_note_47 (by decide) (fun h47 => ?_) (fun h47 => ?_)
            · refine fm_ald0 dX8_note_53 ?_
              refine gr_7_6 dX8_note_54 fd_X8_36 ?_
              refine fm_ild1 dX8_note_57 ?_
              refine fm_ild2 dX8_note_58 ?_
              refine fm_ild3 dX8_note_59 ?_
              refine fm_ild4 dX8_note_60 ?_
              refine fm_cvN dX8_note_62 cl_X8_188 (k_X2_append (by omega) (by omega)) ob_13 rfl rfl (by decide) rfl rfl (Nat.le_of_ble_eq_true rfl) (fun s62 q62 => ?_)
              subst q62
              refine fm_ald0 dX8_note_65 ?_
              refine gr_7_6 dX8_note_66 fd_X8_36 ?_
              refine gi_2_4 dX8_note_69 fd_X8_187 ?_
              refine fm_iretI dX8_note_72 rfl ?_
              unfold sp_note
              first
                | (rw [if_pos (by omega)]; exact ⟨by omega, h⟩)
                | (rw [if_neg (by omega), if_pos (by omega)]; exact ⟨by omega, h⟩)
                | (rw [if_neg (by omega), if_neg (by omega)]; exact ⟨by simp only [fm_up_eq]; omega, rel_note h (by omega)⟩)
            · refine fm_bipush (by decide) dX8_note_50 ?_
              refine fm_iretI dX8_note_52 rfl ?_
              unfold sp_note
              first
                | (rw [if_pos (by omega)]; exact ⟨by omega, h⟩)
                | (rw [if_neg (by omega), if_pos (by omega)]; exact ⟨by omega, h⟩)
                | (rw [if_neg (by omega), if_neg (by omega)]; exact ⟨by simp only [fm_up_eq]; omega, rel_note h (by omega)⟩)
          · refine fm_iconst dX8_note_36 ?_
            refine fm_iretI dX8_note_37 rfl ?_
            unfold sp_note
            first
              | (rw [if_pos (by omega)]; exact ⟨by omega, h⟩)
              | (rw [if_neg (by omega), if_pos (by omega)]; exact ⟨by omega, h⟩)
              | (rw [if_neg (by omega), if_neg (by omega)]; exact ⟨by simp only [fm_up_eq]; omega, rel_note h (by omega)⟩)
set_option maxRecDepth 20000 in
set_option maxHeartbeats 4000000 in
theorem k_X8_cue {ω : fm_O} {σ : fm_Mem} {μ : fm_Mem} (hi : fj μ) (h : rel μ σ) {a b v : Int} (ra : fm_R a) (rb : fm_R b) (rv : fm_R v) : fm_Met kc ω yX8_cue cX8_cue 4 (some .int) (fm_rm 1) [fm_r ω 0, fm_I a, fm_I b, fm_I v] σ (fm_pI fun z σ' => z = (sp_cue μ a b v).1 ∧ rel (sp_cue μ a b v).2 σ') := by
  refine fm_start (by decide) rfl (Nat.le_of_ble_eq_true rfl) [some (fm_r ω 0), some (fm_I a), some (fm_I b), some (fm_I v)] rfl (fun Γ => ?_)
  have hf := hi.fi
  have hw := rel.cw hf h
  have e0 := h.1.1
  have b0 := hf.1
  have e7 := h.2.2.2.2.1.1
  have b7 := hf.2.2.2.2.2.2.2.2.2.2.2.1
  refine fm_ild1 dX8_cue_0 ?_
  refine fm_iconst dX8_cue_1 ?_
  refine fm_csI dX8_cue_2 cl_X8_72 (k_X8_isWithin ⟨by omega, by omega⟩ ⟨by omega, by omega⟩) rfl rfl (by decide) rfl rfl (Nat.le_of_ble_eq_true rfl) (fun z2 s2 q2 => ?_)
  obtain ⟨q2, rfl⟩ := q2
  refine fm_if_eq (⟨by omega, by omega⟩) 32 dX8_cue_5 (by decide) (fun h5 => ?_) (fun h5 => ?_)
  · refine fm_iconst dX8_cue_32 ?_
    refine fm_iretI dX8_cue_33 rfl ?_
    unfold sp_cue
    first
      | (rw [if_pos (by omega)]; exact ⟨by omega, h⟩)
      | (rw [if_neg (by omega), if_pos (by omega)]; exact ⟨by omega, h⟩)
      | (rw [if_neg (by omega), if_neg (by omega)]; exact ⟨by simp only [fm_up_eq]; omega, rel_cue h (by omega) (by omega) (by omega)⟩)
  · refine fm_ild2 dX8_cue_8 ?_
    refine fm_iconst dX8_cue_9 ?_
    refine fm_csI dX8_cue_10 cl_X8_72 (k_X8_isWithin ⟨by omega, by omega⟩ ⟨by omega, by omega⟩) rfl rfl (by decide) rfl rfl (Nat.le_of_ble_eq_true rfl) (fun z10 s10 q10 => ?_)
    obtain ⟨q10, rfl⟩ := q10
    refine fm_if_eq (⟨by omega, by omega⟩) 32 dX8_cue_13 (by decide) (fun h13 => ?_) (fun h13 => ?_)
    · refine fm_iconst dX8_cue_32 ?_
      refine fm_iretI dX8_cue_33 rfl ?_
      unfold sp_cue
      first
        | (rw [if_pos (by omega)]; exact ⟨by omega, h⟩)
        | (rw [if_neg (by omega), if_pos (by omega)]; exact ⟨by omega, h⟩)
        | (rw [if_neg (by omega), if_neg (by omega)]; exact ⟨by simp only [fm_up_eq]; omega, rel_cue h (by omega) (by omega) (by omega)⟩)
    · refine fm_ild1 dX8_cue_16 ?_
      refine fm_ild2 dX8_cue_17 ?_
      refine fm_icmp_eq (⟨by omega, by omega⟩) (⟨by omega, by omega⟩) 32 dX8_cue_18 (by decide) (fun h18 => ?_) (fun h18 => ?_)
      · refine fm_iconst dX8_cue_32 ?_
        refine fm_iretI dX8_cue_33 rfl ?_
        unfold sp_cue
        first
          | (rw [if_pos (by omega)]; exact ⟨by omega, h⟩)
          | (rw [if_neg (by omega), if_pos (by omega)]; exact ⟨by omega, h⟩)
          | (rw [if_neg (by omega), if_neg (by omega)]; exact ⟨by simp only [fm_up_eq]; omega, rel_cue h (by omega) (by omega) (by omega)⟩)
      · refine fm_ild3 dX8_cue_21 ?_
        refine fm_iconst dX8_cue_22 ?_
        refine fm_icmp_lt (⟨by omega, by omega⟩) (⟨by omega, by omega⟩) 32 dX8_cue_23 (by decide) (fun h23 => ?_) (fun h23 => ?_)
        · refine fm_iconst dX8_cue_32 ?_
          refine fm_iretI dX8_cue_33 rfl ?_
          unfold sp_cue
          first
            | (rw [if_pos (by omega)]; exact ⟨by omega, h⟩)
            | (rw [if_neg (by omega), if_pos (by omega)]; exact ⟨by omega, h⟩)
            | (rw [if_neg (by omega), if_neg (by omega)]; exact ⟨by simp only [fm_up_eq]; omega, rel_cue h (by omega) (by omega) (by omega)⟩)
        · refine fm_ild3 dX8_cue_26 ?_
          refine fm_bipush (by decide) dX8_cue_27 ?_
          refine fm_icmp_le (⟨by omega, by omega⟩) (⟨by omega, by omega⟩) 34 dX8_cue_29 (by decide) (fun h29 => ?_) (fun h29 => ?_)
          · refine fm_ald0 dX8_cue_34 ?_
            refine gr_7_7 dX8_cue_35 fd_X8_43 ?_
            refine gi_0_4 dX8_cue_38 fd_X8_197 ?_
            refine fm_bipush (by decide) dX8_cue_41 ?_
            refine fm_icmp_lt (⟨by omega, by omega⟩) (⟨by omega, by omega⟩) 49 dX8_cue_43 (by decide) (fun h43 => ?_) (fun h43 => ?_)
            · refine fm_ald0 dX8_cue_49 ?_
              refine gr_7_7 dX8_cue_50 fd_X8_43 ?_
              refine fm_ild1 dX8_cue_53 ?_
              refine fm_ild2 dX8_cue_54 ?_
              refine fm_ild3 dX8_cue_55 ?_
              refine fm_cvN dX8_cue_56 cl_X8_198 (k_X0_append (by omega) (by omega)) ob_18 rfl rfl (by decide) rfl rfl (Nat.le_of_ble_eq_true rfl) (fun s56 q56 => ?_)
              subst q56
              refine fm_ald0 dX8_cue_59 ?_
              refine gr_7_7 dX8_cue_60 fd_X8_43 ?_
              refine gi_0_4 dX8_cue_63 fd_X8_197 ?_
              refine fm_iretI dX8_cue_66 rfl ?_
              unfold sp_cue
              first
                | (rw [if_pos (by omega)]; exact ⟨by omega, h⟩)
                | (rw [if_neg (by omega), if_pos (by omega)]; exact ⟨by omega, h⟩)
                | (rw [if_neg (by omega), if_neg (by omega)]; exact ⟨by simp only [fm_up_eq]; omega, rel_cue h (by omega) (by omega) (by omega)⟩)
            · refine fm_bipush (by decide) dX8_cue_46 ?_
              refine fm_iretI dX8_cue_48 rfl ?_
              unfold sp_cue
              first
                | (rw [if_pos (by omega)]; exact ⟨by omega, h⟩)
                | (rw [if_neg (by omega), if_pos (by omega)]; exact ⟨by omega, h⟩)
                | (rw [if_neg (by omega), if_neg (by omega)]; exact ⟨by simp only [fm_up_eq]; omega, rel_cue h (by omega) (by omega) (by omega)⟩)
          · refine fm_iconst dX8_cue_32 ?_
            refine fm_iretI dX8_cue_33 rfl ?_
            unfold sp_cue
            first
              | (rw [if_pos (by omega)]; exact ⟨by omega, h⟩)
              | (rw [if_neg (by omega), if_pos (by omega)]; exact ⟨by omega, h⟩)
              | (rw [if_neg (by omega), if_neg (by omega)]; exact ⟨by simp only [fm_up_eq]; omega, rel_cue h (by omega) (by omega) (by omega)⟩)
set_option maxRecDepth 20000 in
set_option maxHeartbeats 4000000 in
theorem k_X8_noCues {ω : fm_O} {σ : fm_Mem} {μ : fm_Mem} (hi : fj μ) (h : rel μ σ)  : fm_Met kc ω yX8_noCues cX8_noCues 2 (some .int) (fm_rm 2) [fm_r ω 0] σ (fm_pI fun z σ' => z = (sp_noCues μ).1 ∧ rel (sp_noCues μ).2 σ') := by
  refine fm_start (by decide) rfl (Nat.le_of_ble_eq_true rfl) [some (fm_r ω 0), none] rfl (fun Γ => ?_)
  have hf := hi.fi
  have hw := rel.cw hf h
  have e0 := h.1.1
  have b0 := hf.1
  refine fm_ald0 dX8_noCues_0 ?_
  refine gr_7_7 dX8_noCues_1 fd_X8_43 ?_
  refine gi_0_4 dX8_noCues_4 fd_X8_197 ?_
  refine fm_ist1 rfl dX8_noCues_7 ?_
  refine fm_ald0 dX8_noCues_8 ?_
  refine gr_7_7 dX8_noCues_9 fd_X8_43 ?_
  refine fm_cvN dX8_noCues_12 cl_X8_199 (k_X0_clear) ob_18 rfl rfl (by decide) rfl rfl (Nat.le_of_ble_eq_true rfl) (fun s12 q12 => ?_)
  subst q12
  refine fm_ild1 dX8_noCues_15 ?_
  exact fm_iretI dX8_noCues_16 rfl ⟨h.2.2.2.2.1.1, rel_noCues h⟩
set_option maxRecDepth 20000 in
set_option maxHeartbeats 4000000 in
theorem k_X8_undo {ω : fm_O} {σ : fm_Mem} {μ : fm_Mem} (hi : fj μ) (h : rel μ σ)  : fm_Met kc ω yX8_undo cX8_undo 3 (some .int) (fm_rm 0) [fm_r ω 0] σ (fm_pI fun z σ' => z = (sp_undo μ).1 ∧ rel (sp_undo μ).2 σ') := by
  refine fm_start (by decide) rfl (Nat.le_of_ble_eq_true rfl) [some (fm_r ω 0), none, none] rfl (fun Γ => ?_)
  have hf := hi.fi
  have hw := rel.cw hf h
  have e0 := h.1.1
  have b0 := hf.1
  have et := h.2.2.2.2.2.1
  have bt := hf.2.2.2.2.2.2.2.2.2.2.2.2.2.1
  refine fm_ald0 dX8_undo_0 ?_
  refine gr_7_8 dX8_undo_1 fd_X8_50 ?_
  refine gi_6_3 dX8_undo_4 fd_X8_214 ?_
  try simp (disch := omega) only [fm_up_ne, fm_up_nj, fm_up_eq]
  refine fm_if_ne (⟨by omega, by omega⟩) 13 dX8_undo_7 (by decide) (fun h7 => ?_) (fun h7 => ?_)
  · obtain ⟨t1, t2, t3, t4⟩ := h.2.2.2.2.2.2 (μ 0 16 - 1).toNat (by omega)
    refine fm_ald0 dX8_undo_13 ?_
    refine gr_7_8 dX8_undo_14 fd_X8_50 ?_
    refine fm_dupR dX8_undo_17 ?_
    refine gi_6_3 dX8_undo_18 fd_X8_214 ?_
    try simp (disch := omega) only [fm_up_ne, fm_up_nj, fm_up_eq]
    refine fm_iconst dX8_undo_21 ?_
    refine fm_isub dX8_undo_22 ?_
    refine pf_6_3 dX8_undo_23 fd_X8_214 ?_
    refine fm_ald0 dX8_undo_26 ?_
    refine gr_7_8 dX8_undo_27 fd_X8_50 ?_
    refine gr_6_0 dX8_undo_30 fd_X8_215 ?_
    refine fm_ald0 dX8_undo_33 ?_
    refine gr_7_8 dX8_undo_34 fd_X8_50 ?_
    refine gi_6_3 dX8_undo_37 fd_X8_214 ?_
    try simp (disch := omega) only [fm_up_ne, fm_up_nj, fm_up_eq]
    refine fm_iald dX8_undo_40 ia_24 (by omega) (by omega) ?_
    try simp (disch := omega) only [fm_up_ne, fm_up_nj, fm_up_eq]
    rw [et]
    refine fm_ist1 rfl dX8_undo_41 ?_
    refine fm_ald0 dX8_undo_42 ?_
    refine gr_7_8 dX8_undo_43 fd_X8_50 ?_
    refine gr_6_1 dX8_undo_46 fd_X8_217 ?_
    refine fm_ald0 dX8_undo_49 ?_
    refine gr_7_8 dX8_undo_50 fd_X8_50 ?_
    refine gi_6_3 dX8_undo_53 fd_X8_214 ?_
    try simp (disch := omega) only [fm_up_ne, fm_up_nj, fm_up_eq]
    refine fm_iald dX8_undo_56 ia_25 (by omega) (by omega) ?_
    try simp (disch := omega) only [fm_up_ne, fm_up_nj, fm_up_eq]
    try rw [et]
    refine fm_ist2 rfl dX8_undo_57 ?_
    refine fm_ald0 dX8_undo_58 ?_
    refine gr_7_0 dX8_undo_59 fd_X8_11 ?_
    refine fm_ild1 dX8_undo_62 ?_
    refine ar_1 (by omega) (by omega) dX8_undo_63 ?_
    refine gr_3_1 (by omega) dX8_undo_64 fd_X8_112 ?_
    refine fm_ild2 dX8_undo_67 ?_
    refine fm_ald0 dX8_undo_68 ?_
    refine gr_7_8 dX8_undo_69 fd_X8_50 ?_
    refine gr_6_2 dX8_undo_72 fd_X8_220 ?_
    refine fm_ald0 dX8_undo_75 ?_
    refine gr_7_8 dX8_undo_76 fd_X8_50 ?_
    refine gi_6_3 dX8_undo_79 fd_X8_214 ?_
    try simp (disch := omega) only [fm_up_ne, fm_up_nj, fm_up_eq]
    refine fm_iald dX8_undo_82 ia_26 (by omega) (by omega) ?_
    try simp (disch := omega) only [fm_up_ne, fm_up_nj, fm_up_eq]
    try rw [et]
    refine fm_iast dX8_undo_83 (ia_rw (by omega)) (by omega) (by omega) ?_
    refine fm_ild1 dX8_undo_84 ?_
    refine fm_bipush (by decide) dX8_undo_85 ?_
    refine fm_imul dX8_undo_87 ?_
    refine fm_ild2 dX8_undo_88 ?_
    refine fm_iadd dX8_undo_89 ?_
    refine fm_iretI dX8_undo_90 rfl ?_
    unfold sp_undo
    first
      | (rw [if_pos (by omega)]; exact ⟨by omega, h⟩)
      | (rw [if_neg (by omega)]; exact ⟨by omega, by (try rw [et]); exact rel_undo h (by omega)⟩)
  · refine fm_bipush (by decide) dX8_undo_10 ?_
    refine fm_iretI dX8_undo_12 rfl ?_
    unfold sp_undo
    first
      | (rw [if_pos (by omega)]; exact ⟨by omega, h⟩)
      | (rw [if_neg (by omega)]; exact ⟨by omega, by (try rw [et]); exact rel_undo h (by omega)⟩)
set_option maxRecDepth 20000 in
set_option maxHeartbeats 4000000 in
theorem k_X8_count {ω : fm_O} {σ : fm_Mem} {μ : fm_Mem} (hi : fj μ) (h : rel μ σ) {t : Int} (rt : fm_R t) : fm_Met kc ω yX8_count cX8_count 2 (some .int) (fm_rm 0) [fm_r ω 0, fm_I t] σ (fm_pI fun z σ' => z = sp_count μ t ∧ rel μ σ') := by
  refine fm_start (by decide) rfl (Nat.le_of_ble_eq_true rfl) [some (fm_r ω 0), some (fm_I t)] rfl (fun Γ => ?_)
  have hf := hi.fi
  have hw := rel.cw hf h
  have e0 := h.1.1
  have b0 := hf.1
  refine fm_ild1 dX8_count_0 ?_
  rcases (show t = 0 ∨ t = 1 ∨ t = 2 ∨ t = 3 ∨ t = 4 ∨ (t < 0 ∨ 4 < t) by omega) with hsw | hsw | hsw | hsw | hsw | hsw
  · refine fm_tabIn (off := 35) 36 dX8_count_1 (⟨by omega, by omega⟩) (by omega) (by omega) (by rw [hsw]; rfl) (by decide) ?_
    refine fm_ald0 dX8_count_36 ?_
    refine gi_7_1 dX8_count_37 fd_X8_64 ?_
    refine fm_iretI dX8_count_40 rfl ?_
    unfold sp_count
    first
      | (rw [if_pos (by omega)]; exact ⟨by first | exact h.1.1 | exact h.2.1.1 | exact h.2.2.2.1.1 | exact h.2.2.2.2.1.1 | exact h.2.2.2.2.2.1, h⟩)
      | (rw [if_neg (by omega), if_pos (by omega)]; exact ⟨by first | exact h.1.1 | exact h.2.1.1 | exact h.2.2.2.1.1 | exact h.2.2.2.2.1.1 | exact h.2.2.2.2.2.1, h⟩)
      | (rw [if_neg (by omega), if_neg (by omega), if_pos (by omega)]; exact ⟨by first | exact h.1.1 | exact h.2.1.1 | exact h.2.2.2.1.1 | exact h.2.2.2.2.1.1 | exact h.2.2.2.2.2.1, h⟩)
      | (rw [if_neg (by omega), if_neg (by omega), if_neg (by omega), if_pos (by omega)]; exact ⟨by first | exact h.1.1 | exact h.2.1.1 | exact h.2.2.2.1.1 | exact h.2.2.2.2.1.1 | exact h.2.2.2.2.2.1, h⟩)
      | (rw [if_neg (by omega), if_neg (by omega), if_neg (by omega), if_neg (by omega), if_pos (by omega)]; exact ⟨by first | exact h.1.1 | exact h.2.1.1 | exact h.2.2.2.1.1 | exact h.2.2.2.2.1.1 | exact h.2.2.2.2.2.1, h⟩)
      | (rw [if_neg (by omega), if_neg (by omega), if_neg (by omega), if_neg (by omega), if_neg (by omega)]; exact ⟨rfl, h⟩)
  · refine fm_tabIn (off := 40) 41 dX8_count_1 (⟨by omega, by omega⟩) (by omega) (by omega) (by rw [hsw]; rfl) (by decide) ?_
    refine fm_ald0 dX8_count_41 ?_
    refine gr_7_2 dX8_count_42 fd_X8_18 ?_
    refine gi_4_2 dX8_count_45 fd_X8_121 ?_
    refine fm_iretI dX8_count_48 rfl ?_
    unfold sp_count
    first
      | (rw [if_pos (by omega)]; exact ⟨by first | exact h.1.1 | exact h.2.1.1 | exact h.2.2.2.1.1 | exact h.2.2.2.2.1.1 | exact h.2.2.2.2.2.1, h⟩)
      | (rw [if_neg (by omega), if_pos (by omega)]; exact ⟨by first | exact h.1.1 | exact h.2.1.1 | exact h.2.2.2.1.1 | exact h.2.2.2.2.1.1 | exact h.2.2.2.2.2.1, h⟩)
      | (rw [if_neg (by omega), if_neg (by omega), if_pos (by omega)]; exact ⟨by first | exact h.1.1 | exact h.2.1.1 | exact h.2.2.2.1.1 | exact h.2.2.2.2.1.1 | exact h.2.2.2.2.2.1, h⟩)
      | (rw [if_neg (by omega), if_neg (by omega), if_neg (by omega), if_pos (by omega)]; exact ⟨by first | exact h.1.1 | exact h.2.1.1 | exact h.2.2.2.1.1 | exact h.2.2.2.2.1.1 | exact h.2.2.2.2.2.1, h⟩)
      | (rw [if_neg (by omega), if_neg (by omega), if_neg (by omega), if_neg (by omega), if_pos (by omega)]; exact ⟨by first | exact h.1.1 | exact h.2.1.1 | exact h.2.2.2.1.1 | exact h.2.2.2.2.1.1 | exact h.2.2.2.2.2.1, h⟩)
      | (rw [if_neg (by omega), if_neg (by omega), if_neg (by omega), if_neg (by omega), if_neg (by omega)]; exact ⟨rfl, h⟩)
  · refine fm_tabIn (off := 48) 49 dX8_count_1 (⟨by omega, by omega⟩) (by omega) (by omega) (by rw [hsw]; rfl) (by decide) ?_
    refine fm_ald0 dX8_count_49 ?_
    refine gr_7_6 dX8_count_50 fd_X8_36 ?_
    refine gi_2_4 dX8_count_53 fd_X8_187 ?_
    refine fm_iretI dX8_count_56 rfl ?_
    unfold sp_count
    first
      | (rw [if_pos (by omega)]; exact ⟨by first | exact h.1.1 | exact h.2.1.1 | exact h.2.2.2.1.1 | exact h.2.2.2.2.1.1 | exact h.2.2.2.2.2.1, h⟩)
      | (rw [if_neg (by omega), if_pos (by omega)]; exact ⟨by first | exact h.1.1 | exact h.2.1.1 | exact h.2.2.2.1.1 | exact h.2.2.2.2.1.1 | exact h.2.2.2.2.2.1, h⟩)
      | (rw [if_neg (by omega), if_neg (by omega), if_pos (by omega)]; exact ⟨by first | exact h.1.1 | exact h.2.1.1 | exact h.2.2.2.1.1 | exact h.2.2.2.2.1.1 | exact h.2.2.2.2.2.1, h⟩)
      | (rw [if_neg (by omega), if_neg (by omega), if_neg (by omega), if_pos (by omega)]; exact ⟨by first | exact h.1.1 | exact h.2.1.1 | exact h.2.2.2.1.1 | exact h.2.2.2.2.1.1 | exact h.2.2.2.2.2.1, h⟩)
      | (rw [if_neg (by omega), if_neg (by omega), if_neg (by omega), if_neg (by omega), if_pos (by omega)]; exact ⟨by first | exact h.1.1 | exact h.2.1.1 | exact h.2.2.2.1.1 | exact h.2.2.2.2.1.1 | exact h.2.2.2.2.2.1, h⟩)
      | (rw [if_neg (by omega), if_neg (by omega), if_neg (by omega), if_neg (by omega), if_neg (by omega)]; exact ⟨rfl, h⟩)
  · refine fm_tabIn (off := 56) 57 dX8_count_1 (⟨by omega, by omega⟩) (by omega) (by omega) (by rw [hsw]; rfl) (by decide) ?_
    refine fm_ald0 dX8_count_57 ?_
    refine gr_7_7 dX8_count_58 fd_X8_43 ?_
    refine gi_0_4 dX8_count_61 fd_X8_197 ?_
    refine fm_iretI dX8_count_64 rfl ?_
    unfold sp_count
    first
      | (rw [if_pos (by omega)]; exact ⟨by first | exact h.1.1 | exact h.2.1.1 | exact h.2.2.2.1.1 | exact h.2.2.2.2.1.1 | exact h.2.2.2.2.2.1, h⟩)
      | (rw [if_neg (by omega), if_pos (by omega)]; exact ⟨by first | exact h.1.1 | exact h.2.1.1 | exact h.2.2.2.1.1 | exact h.2.2.2.2.1.1 | exact h.2.2.2.2.2.1, h⟩)
      | (rw [if_neg (by omega), if_neg (by omega), if_pos (by omega)]; exact ⟨by first | exact h.1.1 | exact h.2.1.1 | exact h.2.2.2.1.1 | exact h.2.2.2.2.1.1 | exact h.2.2.2.2.2.1, h⟩)
      | (rw [if_neg (by omega), if_neg (by omega), if_neg (by omega), if_pos (by omega)]; exact ⟨by first | exact h.1.1 | exact h.2.1.1 | exact h.2.2.2.1.1 | exact h.2.2.2.2.1.1 | exact h.2.2.2.2.2.1, h⟩)
      | (rw [if_neg (by omega), if_neg (by omega), if_neg (by omega), if_neg (by omega), if_pos (by omega)]; exact ⟨by first | exact h.1.1 | exact h.2.1.1 | exact h.2.2.2.1.1 | exact h.2.2.2.2.1.1 | exact h.2.2.2.2.2.1, h⟩)
      | (rw [if_neg (by omega), if_neg (by omega), if_neg (by omega), if_neg (by omega), if_neg (by omega)]; exact ⟨rfl, h⟩)
  · refine fm_tabIn (off := 64) 65 dX8_count_1 (⟨by omega, by omega⟩) (by omega) (by omega) (by rw [hsw]; rfl) (by decide) ?_
    refine fm_ald0 dX8_count_65 ?_
    refine gr_7_8 dX8_count_66 fd_X8_50 ?_
    refine gi_6_3 dX8_count_69 fd_X8_214 ?_
    refine fm_iretI dX8_count_72 rfl ?_
    unfold sp_count
    first
      | (rw [if_pos (by omega)]; exact ⟨by first | exact h.1.1 | exact h.2.1.1 | exact h.2.2.2.1.1 | exact h.2.2.2.2.1.1 | exact h.2.2.2.2.2.1, h⟩)
      | (rw [if_neg (by omega), if_pos (by omega)]; exact ⟨by first | exact h.1.1 | exact h.2.1.1 | exact h.2.2.2.1.1 | exact h.2.2.2.2.1.1 | exact h.2.2.2.2.2.1, h⟩)
      | (rw [if_neg (by omega), if_neg (by omega), if_pos (by omega)]; exact ⟨by first | exact h.1.1 | exact h.2.1.1 | exact h.2.2.2.1.1 | exact h.2.2.2.2.1.1 | exact h.2.2.2.2.2.1, h⟩)
      | (rw [if_neg (by omega), if_neg (by omega), if_neg (by omega), if_pos (by omega)]; exact ⟨by first | exact h.1.1 | exact h.2.1.1 | exact h.2.2.2.1.1 | exact h.2.2.2.2.1.1 | exact h.2.2.2.2.2.1, h⟩)
      | (rw [if_neg (by omega), if_neg (by omega), if_neg (by omega), if_neg (by omega), if_pos (by omega)]; exact ⟨by first | exact h.1.1 | exact h.2.1.1 | exact h.2.2.2.1.1 | exact h.2.2.2.2.1.1 | exact h.2.2.2.2.2.1, h⟩)
      | (rw [if_neg (by omega), if_neg (by omega), if_neg (by omega), if_neg (by omega), if_neg (by omega)]; exact ⟨rfl, h⟩)
  · refine fm_tabOut (⟨by omega, by omega⟩) 73 dX8_count_1 hsw (by decide) ?_
    refine fm_iconst dX8_count_73 ?_
    refine fm_iretI dX8_count_74 rfl ?_
    unfold sp_count
    first
      | (rw [if_pos (by omega)]; exact ⟨by first | exact h.1.1 | exact h.2.1.1 | exact h.2.2.2.1.1 | exact h.2.2.2.2.1.1 | exact h.2.2.2.2.2.1, h⟩)
      | (rw [if_neg (by omega), if_pos (by omega)]; exact ⟨by first | exact h.1.1 | exact h.2.1.1 | exact h.2.2.2.1.1 | exact h.2.2.2.2.1.1 | exact h.2.2.2.2.2.1, h⟩)
      | (rw [if_neg (by omega), if_neg (by omega), if_pos (by omega)]; exact ⟨by first | exact h.1.1 | exact h.2.1.1 | exact h.2.2.2.1.1 | exact h.2.2.2.2.1.1 | exact h.2.2.2.2.2.1, h⟩)
      | (rw [if_neg (by omega), if_neg (by omega), if_neg (by omega), if_pos (by omega)]; exact ⟨by first | exact h.1.1 | exact h.2.1.1 | exact h.2.2.2.1.1 | exact h.2.2.2.2.1.1 | exact h.2.2.2.2.2.1, h⟩)
      | (rw [if_neg (by omega), if_neg (by omega), if_neg (by omega), if_neg (by omega), if_pos (by omega)]; exact ⟨by first | exact h.1.1 | exact h.2.1.1 | exact h.2.2.2.1.1 | exact h.2.2.2.2.1.1 | exact h.2.2.2.2.2.1, h⟩)
      | (rw [if_neg (by omega), if_neg (by omega), if_neg (by omega), if_neg (by omega), if_neg (by omega)]; exact ⟨rfl, h⟩)
end
section
theorem fm_nn {m : Nat} (h : m < 2147483648) : Int32.ofInt (m : Int) = nI m := by
  rw [fm_nat (by omega) (by omega), Int.toNat_natCast]
theorem fm_divL {x d : Int} (h0 : 0 ≤ x) (h1 : x < 2147483648) (d0 : 0 < d) (d1 : d < 2147483648) : Int32.ofInt x / Int32.ofInt d = Int32.ofInt (x / d) := by
  obtain ⟨m, rfl⟩ := Int.eq_ofNat_of_zero_le h0
  obtain ⟨n, rfl⟩ := Int.eq_ofNat_of_zero_le (Int.le_of_lt d0)
  have e : ((m : Int) / (n : Int)) = ((m / n : Nat) : Int) := rfl
  have hq : m / n ≤ m := Nat.div_le_self m n
  rw [e, fm_nn (by omega), fm_nn (by omega), fm_nn (by omega), pk_div (by omega) (by omega) (by omega)]
theorem fm_remL {x d : Int} (h0 : 0 ≤ x) (h1 : x < 2147483648) (d0 : 0 < d) (d1 : d < 2147483648) : Int32.ofInt x - Int32.ofInt x / Int32.ofInt d * Int32.ofInt d = Int32.ofInt (x % d) := by
  obtain ⟨m, rfl⟩ := Int.eq_ofNat_of_zero_le h0
  obtain ⟨n, rfl⟩ := Int.eq_ofNat_of_zero_le (Int.le_of_lt d0)
  have e : ((m : Int) % (n : Int)) = ((m % n : Nat) : Int) := rfl
  have hq : m % n ≤ m := Nat.mod_le m n
  rw [e, fm_nn (by omega), fm_nn (by omega), fm_nn (by omega), pk_rem (by omega) (by omega) (by omega)]
theorem fm_shrL {x d : Int} (k : Nat) (s : Int32) (hs : (s.toBitVec.smod 32).toNat = k) (hd : d = ((2 ^ k : Nat) : Int)) (h0 : 0 ≤ x) (h1 : x < 2147483648) : Int32.ofInt x >>> s = Int32.ofInt (x / d) := by
  obtain ⟨m, rfl⟩ := Int.eq_ofNat_of_zero_le h0
  subst hd
  have e : ((m : Int) / ((2 ^ k : Nat) : Int)) = ((m / 2 ^ k : Nat) : Int) := rfl
  have hq : m / 2 ^ k ≤ m := Nat.div_le_self m _
  rw [e, fm_nn (by omega), fm_nn (by omega), pk_shrN (by omega) s k hs]
theorem fm_andL {x d : Int} (k : Nat) (s : Int32) (hs : s.toBitVec.toNat = 2 ^ k - 1) (hd : d = ((2 ^ k : Nat) : Int)) (h0 : 0 ≤ x) (h1 : x < 2147483648) : Int32.ofInt x &&& s = Int32.ofInt (x % d) := by
  obtain ⟨m, rfl⟩ := Int.eq_ofNat_of_zero_le h0
  subst hd
  have e : ((m : Int) % ((2 ^ k : Nat) : Int)) = ((m % 2 ^ k : Nat) : Int) := rfl
  have hq : m % 2 ^ k ≤ m := Nat.mod_le m _
  rw [e, fm_nn (by omega), fm_nn (by omega), pk_andN (by omega) k hs]

set_option maxRecDepth 20000 in
set_option maxHeartbeats 4000000 in
theorem k_X9_in {ω : fm_O} {σ : fm_Mem} {v a b : Int} (rv : fm_R v) (ra : fm_R a) (rb : fm_R b) : fm_Met km ω yX9_in cX9_in 3 (some .boolean) (fm_rm 0) [fm_I v, fm_I a, fm_I b] σ (fm_pI fun z σ' => ((a ≤ v ∧ v ≤ b) ∧ z = 1 ∨ ¬ (a ≤ v ∧ v ≤ b) ∧ z = 0) ∧ σ = σ') := by
  refine fm_start (by decide) rfl (Nat.le_of_ble_eq_true rfl) [some (fm_I v), some (fm_I a), some (fm_I b)] rfl (fun Γ => ?_)
  refine fm_ild0 dX9_in_0 ?_
  refine fm_ild1 dX9_in_1 ?_
  refine fm_icmp_lt (⟨by omega, by omega⟩) (⟨by omega, by omega⟩) 14 dX9_in_2 (by decide) (fun h2 => ?_) (fun h2 => ?_)
  · refine fm_iconst dX9_in_14 ?_
    exact fm_zretI dX9_in_15 rfl (by omega) ⟨by omega, rfl⟩
  · refine fm_ild0 dX9_in_5 ?_
    refine fm_ild2 dX9_in_6 ?_
    refine fm_icmp_gt (⟨by omega, by omega⟩) (⟨by omega, by omega⟩) 14 dX9_in_7 (by decide) (fun h7 => ?_) (fun h7 => ?_)
    · refine fm_iconst dX9_in_14 ?_
      exact fm_zretI dX9_in_15 rfl (by omega) ⟨by omega, rfl⟩
    · refine fm_iconst dX9_in_10 ?_
      refine fm_goto 15 dX9_in_11 (by decide) ?_
      exact fm_zretI dX9_in_15 rfl (by omega) ⟨by omega, rfl⟩
set_option maxRecDepth 20000 in
set_option maxHeartbeats 4000000 in
theorem k_X9_isCopy {ω : fm_O} {σ : fm_Mem} {c : Int} (rc : fm_R c) (b0 : 0 ≤ σ 0 0 ∧ σ 0 0 ≤ 6) : fm_Met km ω yX9_isCopy cX9_isCopy 2 (some .boolean) (fm_rm 1) [fm_r ω 0, fm_I c] σ (fm_pI fun z σ' => ((0 ≤ c ∧ c < σ 0 0) ∧ z = 1 ∨ ¬ (0 ≤ c ∧ c < σ 0 0) ∧ z = 0) ∧ σ = σ') := by
  refine fm_start (by decide) rfl (Nat.le_of_ble_eq_true rfl) [some (fm_r ω 0), some (fm_I c)] rfl (fun Γ => ?_)
  refine fm_ild1 dX9_isCopy_0 ?_
  refine fm_iconst dX9_isCopy_1 ?_
  refine fm_ald0 dX9_isCopy_2 ?_
  refine gi_8_0 dX9_isCopy_3 fd_X9_73 ?_
  refine fm_iconst dX9_isCopy_6 ?_
  refine fm_isub dX9_isCopy_7 ?_
  refine fm_csI dX9_isCopy_8 cl_X9_77 (k_X9_in ⟨by omega, by omega⟩ ⟨by omega, by omega⟩ ⟨by omega, by omega⟩) rfl rfl (by decide) rfl rfl (Nat.le_of_ble_eq_true rfl) (fun z8 s8 q8 => ?_)
  obtain ⟨q8, rfl⟩ := q8
  exact fm_zretI dX9_isCopy_11 rfl (by omega) ⟨by omega, rfl⟩
set_option maxRecDepth 20000 in
set_option maxHeartbeats 4000000 in
theorem k_X9_isFrame {ω : fm_O} {σ : fm_Mem} {c i : Int} (rc : fm_R c) (ri : fm_R i) (hf : fi σ) : fm_Met km ω yX9_isFrame cX9_isFrame 3 (some .boolean) (fm_rm 2) [fm_r ω 0, fm_I c, fm_I i] σ (fm_pI fun z σ' => ((0 ≤ c ∧ c < σ 0 0 ∧ 0 ≤ i ∧ i < σ 1 c.toNat) ∧ z = 1 ∨ ¬ (0 ≤ c ∧ c < σ 0 0 ∧ 0 ≤ i ∧ i < σ 1 c.toNat) ∧ z = 0) ∧ σ = σ') := by
  refine fm_start (by decide) rfl (Nat.le_of_ble_eq_true rfl) [some (fm_r ω 0), some (fm_I c), some (fm_I i)] rfl (fun Γ => ?_)
  have b0 := hf.1
  refine fm_ald0 dX9_isFrame_0 ?_
  refine fm_ild1 dX9_isFrame_1 ?_
  refine fm_cvI dX9_isFrame_2 cl_X9_81 (k_X9_isCopy ⟨by omega, by omega⟩ b0) mb_0 rfl rfl (by decide) rfl rfl (Nat.le_of_ble_eq_true rfl) (fun z2 s2 q2 => ?_)
  obtain ⟨q2, rfl⟩ := q2
  refine fm_if_eq (⟨by omega, by omega⟩) 28 dX9_isFrame_5 (by decide) (fun h5 => ?_) (fun h5 => ?_)
  · refine fm_iconst dX9_isFrame_28 ?_
    exact fm_zretI dX9_isFrame_29 rfl (by omega) ⟨by omega, rfl⟩
  · refine fm_ild2 dX9_isFrame_8 ?_
    refine fm_iconst dX9_isFrame_9 ?_
    refine fm_ald0 dX9_isFrame_10 ?_
    refine gr_8_1 dX9_isFrame_11 fd_X9_7 ?_
    refine fm_ild1 dX9_isFrame_14 ?_
    have hs := hf.2.1 c.toNat (by omega)
    refine fm_iald dX9_isFrame_15 ma_1 (by omega) (by omega) ?_
    refine fm_iconst dX9_isFrame_16 ?_
    refine fm_isub dX9_isFrame_17 ?_
    refine fm_csI dX9_isFrame_18 cl_X9_77 (k_X9_in ⟨by omega, by omega⟩ ⟨by omega, by omega⟩ ⟨by omega, by omega⟩) rfl rfl (by decide) rfl rfl (Nat.le_of_ble_eq_true rfl) (fun z18 s18 q18 => ?_)
    obtain ⟨q18, rfl⟩ := q18
    refine fm_if_eq (⟨by omega, by omega⟩) 28 dX9_isFrame_21 (by decide) (fun h21 => ?_) (fun h21 => ?_)
    · refine fm_iconst dX9_isFrame_28 ?_
      exact fm_zretI dX9_isFrame_29 rfl (by omega) ⟨by omega, rfl⟩
    · refine fm_iconst dX9_isFrame_24 ?_
      refine fm_goto 29 dX9_isFrame_25 (by decide) ?_
      exact fm_zretI dX9_isFrame_29 rfl (by omega) ⟨by omega, rfl⟩
set_option maxRecDepth 20000 in
set_option maxHeartbeats 4000000 in
theorem k_X9_isPlace {ω : fm_O} {σ : fm_Mem} {p : Int} (rp : fm_R p) (hf : fi σ) : fm_Met km ω yX9_isPlace cX9_isPlace 2 (some .boolean) (fm_rm 1) [fm_r ω 0, fm_I p] σ (fm_pI fun z σ' => ((0 ≤ p ∧ p < σ 1 6) ∧ z = 1 ∨ ¬ (0 ≤ p ∧ p < σ 1 6) ∧ z = 0) ∧ σ = σ') := by
  refine fm_start (by decide) rfl (Nat.le_of_ble_eq_true rfl) [some (fm_r ω 0), some (fm_I p)] rfl (fun Γ => ?_)
  have hs := hf.2.1 6 (by omega)
  refine fm_ild1 dX9_isPlace_0 ?_
  refine fm_iconst dX9_isPlace_1 ?_
  refine fm_ald0 dX9_isPlace_2 ?_
  refine gr_8_1 dX9_isPlace_3 fd_X9_7 ?_
  refine fm_bipush (by decide) dX9_isPlace_6 ?_
  refine fm_iald dX9_isPlace_8 ma_1 (by omega) (by omega) ?_
  rw [show (6 : Int).toNat = 6 from rfl]
  refine fm_iconst dX9_isPlace_9 ?_
  refine fm_isub dX9_isPlace_10 ?_
  refine fm_csI dX9_isPlace_11 cl_X9_77 (k_X9_in ⟨by omega, by omega⟩ ⟨by omega, by omega⟩ ⟨by omega, by omega⟩) rfl rfl (by decide) rfl rfl (Nat.le_of_ble_eq_true rfl) (fun z11 s11 q11 => ?_)
  obtain ⟨q11, rfl⟩ := q11
  exact fm_zretI dX9_isPlace_14 rfl (by omega) ⟨by omega, rfl⟩
set_option maxRecDepth 20000 in
set_option maxHeartbeats 4000000 in
theorem k_X9_lays {ω : fm_O} {σ : fm_Mem} {c m v cam : Int} (hc : 0 ≤ c ∧ c < 6) (hn : 0 ≤ σ 1 c.toNat ∧ σ 1 c.toNat < 40) : fm_Met km ω yX9_lays cX9_lays 5 none (fm_rm 0) [fm_r ω 0, fm_I c, fm_I m, fm_I v, fm_I cam] σ (fm_pN fun σ' => σ' = lay σ c m v cam) := by
  refine fm_start (by decide) rfl (Nat.le_of_ble_eq_true rfl) [some (fm_r ω 0), some (fm_I c), some (fm_I m), some (fm_I v), some (fm_I cam)] rfl (fun Γ => ?_)
  refine fm_ald0 dX9_lays_0 ?_
  refine gr_8_2 dX9_lays_1 fd_X9_13 ?_
  refine fm_bipush (by decide) dX9_lays_4 ?_
  refine fm_ild1 dX9_lays_6 ?_
  refine fm_imul dX9_lays_7 ?_
  refine fm_ald0 dX9_lays_8 ?_
  refine gr_8_1 dX9_lays_9 fd_X9_7 ?_
  refine fm_ild1 dX9_lays_12 ?_
  refine fm_iald dX9_lays_13 ma_1 (by omega) (by omega) ?_
  try simp (disch := omega) only [fm_up_ne, fm_up_nj, fm_up_eq]
  refine fm_iadd dX9_lays_14 ?_
  refine fm_ild2 dX9_lays_15 ?_
  refine fm_iast dX9_lays_16 ma_2 (by omega) (by omega) ?_
  refine fm_ald0 dX9_lays_17 ?_
  refine gr_8_3 dX9_lays_18 fd_X9_16 ?_
  refine fm_bipush (by decide) dX9_lays_21 ?_
  refine fm_ild1 dX9_lays_23 ?_
  refine fm_imul dX9_lays_24 ?_
  refine fm_ald0 dX9_lays_25 ?_
  refine gr_8_1 dX9_lays_26 fd_X9_7 ?_
  refine fm_ild1 dX9_lays_29 ?_
  refine fm_iald dX9_lays_30 ma_1 (by omega) (by omega) ?_
  try simp (disch := omega) only [fm_up_ne, fm_up_nj, fm_up_eq]
  refine fm_iadd dX9_lays_31 ?_
  refine fm_ild3 dX9_lays_32 ?_
  refine fm_iast dX9_lays_33 ma_3 (by omega) (by omega) ?_
  refine fm_ald0 dX9_lays_34 ?_
  refine gr_8_4 dX9_lays_35 fd_X9_19 ?_
  refine fm_bipush (by decide) dX9_lays_38 ?_
  refine fm_ild1 dX9_lays_40 ?_
  refine fm_imul dX9_lays_41 ?_
  refine fm_ald0 dX9_lays_42 ?_
  refine gr_8_1 dX9_lays_43 fd_X9_7 ?_
  refine fm_ild1 dX9_lays_46 ?_
  refine fm_iald dX9_lays_47 ma_1 (by omega) (by omega) ?_
  try simp (disch := omega) only [fm_up_ne, fm_up_nj, fm_up_eq]
  refine fm_iadd dX9_lays_48 ?_
  refine fm_ild4 dX9_lays_49 ?_
  refine fm_iast dX9_lays_51 ma_4 (by omega) (by omega) ?_
  refine fm_ald0 dX9_lays_52 ?_
  refine gr_8_1 dX9_lays_53 fd_X9_7 ?_
  refine fm_ild1 dX9_lays_56 ?_
  refine fm_dup2 dX9_lays_57 ?_
  refine fm_iald dX9_lays_58 ma_1 (by omega) (by omega) ?_
  try simp (disch := omega) only [fm_up_ne, fm_up_nj, fm_up_eq]
  refine fm_iconst dX9_lays_59 ?_
  refine fm_iadd dX9_lays_60 ?_
  refine fm_iast dX9_lays_61 ma_1 (by omega) (by omega) ?_
  exact fm_vretN dX9_lays_62 rfl rfl
set_option maxRecDepth 20000 in
set_option maxHeartbeats 4000000 in
theorem k_X9_copy {ω : fm_O} {σ : fm_Mem} (hi : fj σ)  : fm_Met km ω yX9_copy cX9_copy 1 (some .int) (fm_rm 0) [fm_r ω 0] σ (fm_pI fun z σ' => z = (sp_copy σ).1 ∧ sam (sp_copy σ).2 σ') := by
  refine fm_start (by decide) rfl (Nat.le_of_ble_eq_true rfl) [some (fm_r ω 0)] rfl (fun Γ => ?_)
  have hf := hi.fi
  have b0 := hf.1
  refine fm_ald0 dX9_copy_0 ?_
  refine gi_8_0 dX9_copy_1 fd_X9_73 ?_
  try simp (disch := omega) only [fm_up_ne, fm_up_nj, fm_up_eq]
  refine fm_bipush (by decide) dX9_copy_4 ?_
  refine fm_icmp_ne (⟨by omega, by omega⟩) (⟨by omega, by omega⟩) 12 dX9_copy_6 (by decide) (fun h6 => ?_) (fun h6 => ?_)
  · refine fm_ald0 dX9_copy_12 ?_
    refine fm_dupR dX9_copy_13 ?_
    refine gi_8_0 dX9_copy_14 fd_X9_73 ?_
    try simp (disch := omega) only [fm_up_ne, fm_up_nj, fm_up_eq]
    refine fm_iconst dX9_copy_17 ?_
    refine fm_iadd dX9_copy_18 ?_
    refine pf_8_0 dX9_copy_19 fd_X9_73 ?_
    refine fm_ald0 dX9_copy_22 ?_
    refine gi_8_0 dX9_copy_23 fd_X9_73 ?_
    try simp (disch := omega) only [fm_up_ne, fm_up_nj, fm_up_eq]
    refine fm_iconst dX9_copy_26 ?_
    refine fm_isub dX9_copy_27 ?_
    refine fm_iretI dX9_copy_28 rfl ?_
    unfold sp_copy
    first
      | (rw [if_pos (by omega)]; exact ⟨by omega, sam.rfl⟩)
      | (rw [if_neg (by omega)]; exact ⟨by omega, sam.rfl⟩)
  · refine fm_bipush (by decide) dX9_copy_9 ?_
    refine fm_iretI dX9_copy_11 rfl ?_
    unfold sp_copy
    first
      | (rw [if_pos (by omega)]; exact ⟨by omega, sam.rfl⟩)
      | (rw [if_neg (by omega)]; exact ⟨by omega, sam.rfl⟩)
set_option maxRecDepth 20000 in
set_option maxHeartbeats 4000000 in
theorem k_X9_frame {ω : fm_O} {σ : fm_Mem} (hi : fj σ) {c m v cam : Int} (rc : fm_R c) (rm : fm_R m) (rv : fm_R v) (rcam : fm_R cam) : fm_Met km ω yX9_frame cX9_frame 5 (some .int) (fm_rm 2) [fm_r ω 0, fm_I c, fm_I m, fm_I v, fm_I cam] σ (fm_pI fun z σ' => z = (sp_frame σ c m v cam).1 ∧ sam (sp_frame σ c m v cam).2 σ') := by
  refine fm_start (by decide) rfl (Nat.le_of_ble_eq_true rfl) [some (fm_r ω 0), some (fm_I c), some (fm_I m), some (fm_I v), some (fm_I cam)] rfl (fun Γ => ?_)
  have hf := hi.fi
  have b0 := hf.1
  refine fm_ald0 dX9_frame_0 ?_
  refine fm_ild1 dX9_frame_1 ?_
  refine fm_cvI dX9_frame_2 cl_X9_81 (k_X9_isCopy ⟨by omega, by omega⟩ b0) mb_0 rfl rfl (by decide) rfl rfl (Nat.le_of_ble_eq_true rfl) (fun z2 s2 q2 => ?_)
  obtain ⟨q2, rfl⟩ := q2
  refine fm_if_eq (⟨by omega, by omega⟩) 38 dX9_frame_5 (by decide) (fun h5 => ?_) (fun h5 => ?_)
  · refine fm_iconst dX9_frame_38 ?_
    refine fm_iretI dX9_frame_39 rfl ?_
    unfold sp_frame
    first
      | (rw [if_pos (by omega)]; exact ⟨by omega, sam.rfl⟩)
      | (rw [if_neg (by omega), if_pos (by omega)]; exact ⟨by omega, sam.rfl⟩)
      | (rw [if_neg (by omega), if_neg (by omega)]; exact ⟨by unfold lay; rw [fm_up_eq], sam.rfl⟩)
  · refine fm_ild2 dX9_frame_8 ?_
    refine fm_iconst dX9_frame_9 ?_
    refine fm_bipush (by decide) dX9_frame_10 ?_
    refine fm_csI dX9_frame_12 cl_X9_77 (k_X9_in ⟨by omega, by omega⟩ ⟨by omega, by omega⟩ ⟨by omega, by omega⟩) rfl rfl (by decide) rfl rfl (Nat.le_of_ble_eq_true rfl) (fun z12 s12 q12 => ?_)
    obtain ⟨q12, rfl⟩ := q12
    refine fm_if_eq (⟨by omega, by omega⟩) 38 dX9_frame_15 (by decide) (fun h15 => ?_) (fun h15 => ?_)
    · refine fm_iconst dX9_frame_38 ?_
      refine fm_iretI dX9_frame_39 rfl ?_
      unfold sp_frame
      first
        | (rw [if_pos (by omega)]; exact ⟨by omega, sam.rfl⟩)
        | (rw [if_neg (by omega), if_pos (by omega)]; exact ⟨by omega, sam.rfl⟩)
        | (rw [if_neg (by omega), if_neg (by omega)]; exact ⟨by unfold lay; rw [fm_up_eq], sam.rfl⟩)
    · refine fm_ild3 dX9_frame_18 ?_
      refine fm_iconst dX9_frame_19 ?_
      refine fm_bipush (by decide) dX9_frame_20 ?_
      refine fm_csI dX9_frame_22 cl_X9_77 (k_X9_in ⟨by omega, by omega⟩ ⟨by omega, by omega⟩ ⟨by omega, by omega⟩) rfl rfl (by decide) rfl rfl (Nat.le_of_ble_eq_true rfl) (fun z22 s22 q22 => ?_)
      obtain ⟨q22, rfl⟩ := q22
      refine fm_if_eq (⟨by omega, by omega⟩) 38 dX9_frame_25 (by decide) (fun h25 => ?_) (fun h25 => ?_)
      · refine fm_iconst dX9_frame_38 ?_
        refine fm_iretI dX9_frame_39 rfl ?_
        unfold sp_frame
        first
          | (rw [if_pos (by omega)]; exact ⟨by omega, sam.rfl⟩)
          | (rw [if_neg (by omega), if_pos (by omega)]; exact ⟨by omega, sam.rfl⟩)
          | (rw [if_neg (by omega), if_neg (by omega)]; exact ⟨by unfold lay; rw [fm_up_eq], sam.rfl⟩)
      · refine fm_ild4 dX9_frame_28 ?_
        refine fm_iconst dX9_frame_30 ?_
        refine fm_iconst dX9_frame_31 ?_
        refine fm_csI dX9_frame_32 cl_X9_77 (k_X9_in ⟨by omega, by omega⟩ ⟨by omega, by omega⟩ ⟨by omega, by omega⟩) rfl rfl (by decide) rfl rfl (Nat.le_of_ble_eq_true rfl) (fun z32 s32 q32 => ?_)
        obtain ⟨q32, rfl⟩ := q32
        refine fm_if_ne (⟨by omega, by omega⟩) 40 dX9_frame_35 (by decide) (fun h35 => ?_) (fun h35 => ?_)
        · refine fm_ald0 dX9_frame_40 ?_
          refine gr_8_1 dX9_frame_41 fd_X9_7 ?_
          refine fm_ild1 dX9_frame_44 ?_
          have hs := hf.2.1 c.toNat (by omega)
          refine fm_iald dX9_frame_45 ma_1 (by omega) (by omega) ?_
          refine fm_bipush (by decide) dX9_frame_46 ?_
          refine fm_icmp_ne (⟨by omega, by omega⟩) (⟨by omega, by omega⟩) 54 dX9_frame_48 (by decide) (fun h48 => ?_) (fun h48 => ?_)
          · refine fm_ald0 dX9_frame_54 ?_
            refine fm_ild1 dX9_frame_55 ?_
            refine fm_ild2 dX9_frame_56 ?_
            refine fm_ild3 dX9_frame_57 ?_
            refine fm_ild4 dX9_frame_58 ?_
            refine fm_cvN dX9_frame_60 cl_X9_85 (k_X9_lays (by omega) (by omega)) mb_0 rfl rfl (by decide) rfl rfl (Nat.le_of_ble_eq_true rfl) (fun s60 q60 => ?_)
            subst q60
            refine fm_ald0 dX9_frame_63 ?_
            refine gr_8_1 dX9_frame_64 fd_X9_7 ?_
            refine fm_ild1 dX9_frame_67 ?_
            refine fm_iald dX9_frame_68 ma_1 (by omega) (by omega) ?_
            refine fm_iretI dX9_frame_69 rfl ?_
            unfold sp_frame
            first
              | (rw [if_pos (by omega)]; exact ⟨by omega, sam.rfl⟩)
              | (rw [if_neg (by omega), if_pos (by omega)]; exact ⟨by omega, sam.rfl⟩)
              | (rw [if_neg (by omega), if_neg (by omega)]; exact ⟨by unfold lay; rw [fm_up_eq], sam.rfl⟩)
          · refine fm_bipush (by decide) dX9_frame_51 ?_
            refine fm_iretI dX9_frame_53 rfl ?_
            unfold sp_frame
            first
              | (rw [if_pos (by omega)]; exact ⟨by omega, sam.rfl⟩)
              | (rw [if_neg (by omega), if_pos (by omega)]; exact ⟨by omega, sam.rfl⟩)
              | (rw [if_neg (by omega), if_neg (by omega)]; exact ⟨by unfold lay; rw [fm_up_eq], sam.rfl⟩)
        · refine fm_iconst dX9_frame_38 ?_
          refine fm_iretI dX9_frame_39 rfl ?_
          unfold sp_frame
          first
            | (rw [if_pos (by omega)]; exact ⟨by omega, sam.rfl⟩)
            | (rw [if_neg (by omega), if_pos (by omega)]; exact ⟨by omega, sam.rfl⟩)
            | (rw [if_neg (by omega), if_neg (by omega)]; exact ⟨by unfold lay; rw [fm_up_eq], sam.rfl⟩)
set_option maxRecDepth 20000 in
set_option maxHeartbeats 4000000 in
theorem k_X9_at {ω : fm_O} {σ : fm_Mem} (hi : fj σ) {c i t : Int} (rc : fm_R c) (ri : fm_R i) (rt : fm_R t) : fm_Met km ω yX9_at cX9_at 4 (some .int) (fm_rm 3) [fm_r ω 0, fm_I c, fm_I i, fm_I t] σ (fm_pI fun z σ' => z = sp_at σ c i t ∧ sam σ σ') := by
  refine fm_start (by decide) rfl (Nat.le_of_ble_eq_true rfl) [some (fm_r ω 0), some (fm_I c), some (fm_I i), some (fm_I t)] rfl (fun Γ => ?_)
  have hf := hi.fi
  have b0 := hf.1
  refine fm_ald0 dX9_at_0 ?_
  refine fm_ild1 dX9_at_1 ?_
  refine fm_ild2 dX9_at_2 ?_
  refine fm_cvI dX9_at_3 cl_X9_91 (k_X9_isFrame ⟨by omega, by omega⟩ ⟨by omega, by omega⟩ hf) mb_0 rfl rfl (by decide) rfl rfl (Nat.le_of_ble_eq_true rfl) (fun z3 s3 q3 => ?_)
  obtain ⟨q3, rfl⟩ := q3
  refine fm_if_eq (⟨by omega, by omega⟩) 18 dX9_at_6 (by decide) (fun h6 => ?_) (fun h6 => ?_)
  · refine fm_iconst dX9_at_18 ?_
    refine fm_iretI dX9_at_19 rfl ?_
    unfold sp_at
    first
      | (rw [if_pos (by omega)]; exact ⟨by omega, sam.rfl⟩)
      | (rw [if_neg (by omega), if_pos (by omega)]; exact ⟨rfl, sam.rfl⟩)
      | (rw [if_neg (by omega), if_neg (by omega), if_pos (by omega)]; exact ⟨rfl, sam.rfl⟩)
      | (rw [if_neg (by omega), if_neg (by omega), if_neg (by omega)]; exact ⟨rfl, sam.rfl⟩)
  · refine fm_ild3 dX9_at_9 ?_
    refine fm_iconst dX9_at_10 ?_
    refine fm_iconst dX9_at_11 ?_
    refine fm_csI dX9_at_12 cl_X9_77 (k_X9_in ⟨by omega, by omega⟩ ⟨by omega, by omega⟩ ⟨by omega, by omega⟩) rfl rfl (by decide) rfl rfl (Nat.le_of_ble_eq_true rfl) (fun z12 s12 q12 => ?_)
    obtain ⟨q12, rfl⟩ := q12
    refine fm_if_ne (⟨by omega, by omega⟩) 20 dX9_at_15 (by decide) (fun h15 => ?_) (fun h15 => ?_)
    · have hs := hf.2.1 c.toNat (by omega)
      refine fm_ild3 dX9_at_20 ?_
      refine fm_if_ne (⟨by omega, by omega⟩) 38 dX9_at_21 (by decide) (fun h21 => ?_) (fun h21 => ?_)
      · refine fm_ild3 dX9_at_38 ?_
        refine fm_iconst dX9_at_39 ?_
        refine fm_icmp_ne (⟨by omega, by omega⟩) (⟨by omega, by omega⟩) 57 dX9_at_40 (by decide) (fun h40 => ?_) (fun h40 => ?_)
        · refine fm_ald0 dX9_at_57 ?_
          refine gr_8_4 dX9_at_58 fd_X9_19 ?_
          refine fm_bipush (by decide) dX9_at_61 ?_
          refine fm_ild1 dX9_at_63 ?_
          refine fm_imul dX9_at_64 ?_
          refine fm_ild2 dX9_at_65 ?_
          refine fm_iadd dX9_at_66 ?_
          refine fm_iald dX9_at_67 ma_4 (by omega) (by omega) ?_
          refine fm_iretI dX9_at_68 rfl ?_
          unfold sp_at
          first
            | (rw [if_pos (by omega)]; exact ⟨by omega, sam.rfl⟩)
            | (rw [if_neg (by omega), if_pos (by omega)]; exact ⟨rfl, sam.rfl⟩)
            | (rw [if_neg (by omega), if_neg (by omega), if_pos (by omega)]; exact ⟨rfl, sam.rfl⟩)
            | (rw [if_neg (by omega), if_neg (by omega), if_neg (by omega)]; exact ⟨rfl, sam.rfl⟩)
        · refine fm_ald0 dX9_at_43 ?_
          refine gr_8_3 dX9_at_44 fd_X9_16 ?_
          refine fm_bipush (by decide) dX9_at_47 ?_
          refine fm_ild1 dX9_at_49 ?_
          refine fm_imul dX9_at_50 ?_
          refine fm_ild2 dX9_at_51 ?_
          refine fm_iadd dX9_at_52 ?_
          refine fm_iald dX9_at_53 ma_3 (by omega) (by omega) ?_
          refine fm_goto 68 dX9_at_54 (by decide) ?_
          refine fm_iretI dX9_at_68 rfl ?_
          unfold sp_at
          first
            | (rw [if_pos (by omega)]; exact ⟨by omega, sam.rfl⟩)
            | (rw [if_neg (by omega), if_pos (by omega)]; exact ⟨rfl, sam.rfl⟩)
            | (rw [if_neg (by omega), if_neg (by omega), if_pos (by omega)]; exact ⟨rfl, sam.rfl⟩)
            | (rw [if_neg (by omega), if_neg (by omega), if_neg (by omega)]; exact ⟨rfl, sam.rfl⟩)
      · refine fm_ald0 dX9_at_24 ?_
        refine gr_8_2 dX9_at_25 fd_X9_13 ?_
        refine fm_bipush (by decide) dX9_at_28 ?_
        refine fm_ild1 dX9_at_30 ?_
        refine fm_imul dX9_at_31 ?_
        refine fm_ild2 dX9_at_32 ?_
        refine fm_iadd dX9_at_33 ?_
        refine fm_iald dX9_at_34 ma_2 (by omega) (by omega) ?_
        refine fm_goto 68 dX9_at_35 (by decide) ?_
        refine fm_iretI dX9_at_68 rfl ?_
        unfold sp_at
        first
          | (rw [if_pos (by omega)]; exact ⟨by omega, sam.rfl⟩)
          | (rw [if_neg (by omega), if_pos (by omega)]; exact ⟨rfl, sam.rfl⟩)
          | (rw [if_neg (by omega), if_neg (by omega), if_pos (by omega)]; exact ⟨rfl, sam.rfl⟩)
          | (rw [if_neg (by omega), if_neg (by omega), if_neg (by omega)]; exact ⟨rfl, sam.rfl⟩)
    · refine fm_iconst dX9_at_18 ?_
      refine fm_iretI dX9_at_19 rfl ?_
      unfold sp_at
      first
        | (rw [if_pos (by omega)]; exact ⟨by omega, sam.rfl⟩)
        | (rw [if_neg (by omega), if_pos (by omega)]; exact ⟨rfl, sam.rfl⟩)
        | (rw [if_neg (by omega), if_neg (by omega), if_pos (by omega)]; exact ⟨rfl, sam.rfl⟩)
        | (rw [if_neg (by omega), if_neg (by omega), if_neg (by omega)]; exact ⟨rfl, sam.rfl⟩)
def ksh (μ : fm_Mem) (t : Nat) : fm_Mem := fun a b => if (a = 14 ∨ a = 15) ∧ b < t then μ a (b + 1) else μ a b
theorem ksh_o {μ : fm_Mem} {t a b : Nat} (h : (a ≠ 14 ∧ a ≠ 15) ∨ t ≤ b) : ksh μ t a b = μ a b := by unfold ksh; rw [if_neg (by omega)]
theorem ksh_s (μ : fm_Mem) (t : Nat) : fm_up (fm_up (ksh μ t) 14 t (μ 14 (t + 1))) 15 t (μ 15 (t + 1)) = ksh μ (t + 1) := by
  funext a b
  unfold fm_up ksh
  by_cases h1 : a = 15 ∧ b = t
  · rw [if_pos h1, if_pos (by omega), h1.1, h1.2]
  · rw [if_neg h1]
    by_cases h2 : a = 14 ∧ b = t
    · rw [if_pos h2, if_pos (by omega), h2.1, h2.2]
    · rw [if_neg h2]
      by_cases h3 : (a = 14 ∨ a = 15) ∧ b < t
      · rw [if_pos h3, if_pos (by omega)]
      · rw [if_neg h3, if_neg (by omega)]
theorem ksh_30 {μ : fm_Mem} (h : μ 0 16 = 30) : fm_up (ksh μ 29) 0 16 29 = kdrop μ := by
  funext a b
  unfold kdrop fm_up ksh
  rw [if_pos h]
set_option maxRecDepth 20000 in
set_option maxHeartbeats 4000000 in
theorem j_X9_keeps {ω : fm_O} {σ : fm_Mem} {Γ : fm_G} {q v : Int} (hq : 0 ≤ q ∧ q < 240) (hb : 0 ≤ σ 0 16 ∧ σ 0 16 ≤ 30) (o3 : Option Value) : fm_W km ω Γ (cX9_keeps, RX9, fm_rm 0, 4, none) (fm_pN fun σ' => σ' = kp σ q v) (kdrop σ) 61 [some (fm_r ω 0), some (fm_I q), some (fm_I v), o3] [] := by
  obtain ⟨h2, h3⟩ := kdrop_n hb
  unfold kp
  rw [← kdrop_o (μ := σ) (a := 3) (b := q.toNat) (by omega) (by omega) (by omega)]
  generalize kdrop σ = τ at h2 h3 ⊢
  refine fm_ald0 dX9_keeps_61 ?_
  refine gr_8_17 dX9_keeps_62 fd_X9_49 ?_
  refine fm_ald0 dX9_keeps_65 ?_
  refine gi_8_16 dX9_keeps_66 fd_X9_95 ?_
  try simp (disch := omega) only [fm_up_ne, fm_up_nj, fm_up_eq]
  refine fm_ild1 dX9_keeps_69 ?_
  refine fm_iast dX9_keeps_70 ma_14 (by omega) (by omega) ?_
  refine fm_ald0 dX9_keeps_71 ?_
  refine gr_8_18 dX9_keeps_72 fd_X9_52 ?_
  refine fm_ald0 dX9_keeps_75 ?_
  refine gi_8_16 dX9_keeps_76 fd_X9_95 ?_
  try simp (disch := omega) only [fm_up_ne, fm_up_nj, fm_up_eq]
  refine fm_ald0 dX9_keeps_79 ?_
  refine gr_8_3 dX9_keeps_80 fd_X9_16 ?_
  refine fm_ild1 dX9_keeps_83 ?_
  refine fm_iald dX9_keeps_84 ma_3 (by omega) (by omega) ?_
  try simp (disch := omega) only [fm_up_ne, fm_up_nj, fm_up_eq]
  refine fm_iast dX9_keeps_85 ma_15 (by omega) (by omega) ?_
  refine fm_ald0 dX9_keeps_86 ?_
  refine fm_dupR dX9_keeps_87 ?_
  refine gi_8_16 dX9_keeps_88 fd_X9_95 ?_
  try simp (disch := omega) only [fm_up_ne, fm_up_nj, fm_up_eq]
  refine fm_iconst dX9_keeps_91 ?_
  refine fm_iadd dX9_keeps_92 ?_
  refine pf_8_16 dX9_keeps_93 fd_X9_95 ?_
  refine fm_ald0 dX9_keeps_96 ?_
  refine gr_8_3 dX9_keeps_97 fd_X9_16 ?_
  refine fm_ild1 dX9_keeps_100 ?_
  refine fm_ild2 dX9_keeps_101 ?_
  refine fm_iast dX9_keeps_102 ma_3 (by omega) (by omega) ?_
  exact fm_vretN dX9_keeps_103 rfl rfl
set_option maxRecDepth 20000 in
set_option maxHeartbeats 4000000 in
theorem l_X9_keeps {ω : fm_O} {σ : fm_Mem} {Γ : fm_G} {q v : Int} (hq : 0 ≤ q ∧ q < 240) (hb : σ 0 16 = 30) : ∀ (d : Nat) (z : Int), 1 ≤ z → z + d = 30 → fm_W km ω Γ (cX9_keeps, RX9, fm_rm 0, 4, none) (fm_pN fun σ' => σ' = kp σ q v) (ksh σ (z - 1).toNat) 11 [some (fm_r ω 0), some (fm_I q), some (fm_I v), some (fm_I z)] [] := by
  intro d
  induction d with
  | zero =>
    intro z h0 hz
    refine fm_ild3 dX9_keeps_11 ?_
    refine fm_bipush (by decide) dX9_keeps_12 ?_
    refine fm_icmp_ge (⟨by omega, by omega⟩) (⟨by omega, by omega⟩) 51 dX9_keeps_14 (by decide) (fun h14 => ?_) (fun h14 => ?_)
    · refine fm_ald0 dX9_keeps_51 ?_
      refine fm_dupR dX9_keeps_52 ?_
      refine gi_8_16 dX9_keeps_53 fd_X9_95 ?_
      simp (disch := omega) only [ksh_o]
      rw [hb, show (z - 1).toNat = 29 by omega]
      refine fm_iconst dX9_keeps_56 ?_
      refine fm_isub dX9_keeps_57 ?_
      refine pf_8_16 dX9_keeps_58 fd_X9_95 ?_
      rw [show (30 : Int) - 1 = 29 from rfl, ksh_30 hb]
      exact j_X9_keeps hq (by omega) _
    · exfalso; omega
  | succ d ih =>
    intro z h0 hz
    have ez : z.toNat = (z - 1).toNat + 1 := by omega
    refine fm_ild3 dX9_keeps_11 ?_
    refine fm_bipush (by decide) dX9_keeps_12 ?_
    refine fm_icmp_ge (⟨by omega, by omega⟩) (⟨by omega, by omega⟩) 51 dX9_keeps_14 (by decide) (fun h14 => ?_) (fun h14 => ?_)
    · exfalso; omega
    · refine fm_ald0 dX9_keeps_17 ?_
      refine gr_8_17 dX9_keeps_18 fd_X9_49 ?_
      refine fm_ild3 dX9_keeps_21 ?_
      refine fm_iconst dX9_keeps_22 ?_
      refine fm_isub dX9_keeps_23 ?_
      refine fm_ald0 dX9_keeps_24 ?_
      refine gr_8_17 dX9_keeps_25 fd_X9_49 ?_
      refine fm_ild3 dX9_keeps_28 ?_
      refine fm_iald dX9_keeps_29 ma_14 (by omega) (by omega) ?_
      simp (disch := omega) only [ksh_o]
      refine fm_iast dX9_keeps_30 ma_14 (by omega) (by omega) ?_
      refine fm_ald0 dX9_keeps_31 ?_
      refine gr_8_18 dX9_keeps_32 fd_X9_52 ?_
      refine fm_ild3 dX9_keeps_35 ?_
      refine fm_iconst dX9_keeps_36 ?_
      refine fm_isub dX9_keeps_37 ?_
      refine fm_ald0 dX9_keeps_38 ?_
      refine gr_8_18 dX9_keeps_39 fd_X9_52 ?_
      refine fm_ild3 dX9_keeps_42 ?_
      refine fm_iald dX9_keeps_43 ma_15 (by omega) (by omega) ?_
      simp (disch := omega) only [fm_up_ne, ksh_o]
      refine fm_iast dX9_keeps_44 ma_15 (by omega) (by omega) ?_
      refine fm_inc3 rfl dX9_keeps_45 ?_
      refine fm_goto 11 dX9_keeps_48 (by decide) ?_
      rw [ez, ksh_s, ← ez, show z.toNat = (z + 1 - 1).toNat by omega]
      exact ih (z + 1) (by omega) (by omega)
set_option maxRecDepth 20000 in
set_option maxHeartbeats 4000000 in
theorem k_X9_keeps {ω : fm_O} {σ : fm_Mem} {q v : Int} (hq : 0 ≤ q ∧ q < 240) (hb : 0 ≤ σ 0 16 ∧ σ 0 16 ≤ 30) : fm_Met km ω yX9_keeps cX9_keeps 4 none (fm_rm 0) [fm_r ω 0, fm_I q, fm_I v] σ (fm_pN fun σ' => σ' = kp σ q v) := by
  refine fm_start (by decide) rfl (Nat.le_of_ble_eq_true rfl) [some (fm_r ω 0), some (fm_I q), some (fm_I v), none] rfl (fun Γ => ?_)
  refine fm_ald0 dX9_keeps_0 ?_
  refine gi_8_16 dX9_keeps_1 fd_X9_95 ?_
  refine fm_bipush (by decide) dX9_keeps_4 ?_
  refine fm_icmp_ne (⟨by omega, by omega⟩) (⟨by omega, by omega⟩) 61 dX9_keeps_6 (by decide) (fun h6 => ?_) (fun h6 => ?_)
  · have hJ := j_X9_keeps (ω := ω) (Γ := Γ) (v := v) hq hb none
    unfold kdrop at hJ
    rw [if_neg (by omega)] at hJ
    exact hJ
  · refine fm_iconst dX9_keeps_9 ?_
    refine fm_ist3 rfl dX9_keeps_10 ?_
    have hJ := l_X9_keeps (ω := ω) (Γ := Γ) (v := v) hq (by omega) 29 1 (by omega) (by omega)
    rw [show ksh σ ((1 : Int) - 1).toNat = σ by funext a b; simp [ksh]] at hJ
    exact hJ
set_option maxRecDepth 20000 in
set_option maxHeartbeats 4000000 in
theorem k_X9_wear {ω : fm_O} {σ : fm_Mem} (hi : fj σ) {c i v : Int} (rc : fm_R c) (ri : fm_R i) (rv : fm_R v) : fm_Met km ω yX9_wear cX9_wear 5 (some .int) (fm_rm 3) [fm_r ω 0, fm_I c, fm_I i, fm_I v] σ (fm_pI fun z σ' => z = (sp_wear σ c i v).1 ∧ sam (sp_wear σ c i v).2 σ') := by
  refine fm_start (by decide) rfl (Nat.le_of_ble_eq_true rfl) [some (fm_r ω 0), some (fm_I c), some (fm_I i), some (fm_I v), none] rfl (fun Γ => ?_)
  have hf := hi.fi
  have b0 := hf.1
  refine fm_ald0 dX9_wear_0 ?_
  refine fm_ild1 dX9_wear_1 ?_
  refine fm_ild2 dX9_wear_2 ?_
  refine fm_cvI dX9_wear_3 cl_X9_91 (k_X9_isFrame ⟨by omega, by omega⟩ ⟨by omega, by omega⟩ hf) mb_0 rfl rfl (by decide) rfl rfl (Nat.le_of_ble_eq_true rfl) (fun z3 s3 q3 => ?_)
  obtain ⟨q3, rfl⟩ := q3
  refine fm_if_eq (⟨by omega, by omega⟩) 19 dX9_wear_6 (by decide) (fun h6 => ?_) (fun h6 => ?_)
  · refine fm_iconst dX9_wear_19 ?_
    refine fm_iretI dX9_wear_20 rfl ?_
    unfold sp_wear
    first
      | (rw [if_pos (by omega)]; exact ⟨by omega, sam.rfl⟩)
      | (rw [if_neg (by omega)]; exact ⟨rfl, sam.rfl⟩)
  · refine fm_ild3 dX9_wear_9 ?_
    refine fm_iconst dX9_wear_10 ?_
    refine fm_bipush (by decide) dX9_wear_11 ?_
    refine fm_csI dX9_wear_13 cl_X9_77 (k_X9_in ⟨by omega, by omega⟩ ⟨by omega, by omega⟩ ⟨by omega, by omega⟩) rfl rfl (by decide) rfl rfl (Nat.le_of_ble_eq_true rfl) (fun z13 s13 q13 => ?_)
    obtain ⟨q13, rfl⟩ := q13
    refine fm_if_ne (⟨by omega, by omega⟩) 21 dX9_wear_16 (by decide) (fun h16 => ?_) (fun h16 => ?_)
    · have hs := hf.2.1 c.toNat (by omega)
      have bt := hf.2.2.2.2.2.2.2.2.2.2.2.2.2.1
      refine fm_ald0 dX9_wear_21 ?_
      refine gr_8_3 dX9_wear_22 fd_X9_16 ?_
      refine fm_bipush (by decide) dX9_wear_25 ?_
      refine fm_ild1 dX9_wear_27 ?_
      refine fm_imul dX9_wear_28 ?_
      refine fm_ild2 dX9_wear_29 ?_
      refine fm_iadd dX9_wear_30 ?_
      refine fm_iald dX9_wear_31 ma_3 (by omega) (by omega) ?_
      refine fm_ist4 rfl dX9_wear_32 ?_
      refine fm_ald0 dX9_wear_34 ?_
      refine fm_bipush (by decide) dX9_wear_35 ?_
      refine fm_ild1 dX9_wear_37 ?_
      refine fm_imul dX9_wear_38 ?_
      refine fm_ild2 dX9_wear_39 ?_
      refine fm_iadd dX9_wear_40 ?_
      refine fm_ild3 dX9_wear_41 ?_
      refine fm_cvN dX9_wear_42 cl_X9_98 (k_X9_keeps (by omega) (by omega)) mb_0 rfl rfl (by decide) rfl rfl (Nat.le_of_ble_eq_true rfl) (fun s42 q42 => ?_)
      subst q42
      refine fm_ild4 dX9_wear_45 ?_
      refine fm_iretI dX9_wear_47 rfl ?_
      unfold sp_wear
      first
        | (rw [if_pos (by omega)]; exact ⟨by omega, sam.rfl⟩)
        | (rw [if_neg (by omega)]; exact ⟨rfl, sam.rfl⟩)
    · refine fm_iconst dX9_wear_19 ?_
      refine fm_iretI dX9_wear_20 rfl ?_
      unfold sp_wear
      first
        | (rw [if_pos (by omega)]; exact ⟨by omega, sam.rfl⟩)
        | (rw [if_neg (by omega)]; exact ⟨rfl, sam.rfl⟩)
set_option maxRecDepth 20000 in
set_option maxHeartbeats 4000000 in
theorem k_X9_place {ω : fm_O} {σ : fm_Mem} (hi : fj σ) {m s : Int} (rm : fm_R m) (rs : fm_R s) : fm_Met km ω yX9_place cX9_place 3 (some .int) (fm_rm 1) [fm_r ω 0, fm_I m, fm_I s] σ (fm_pI fun z σ' => z = (sp_place σ m s).1 ∧ sam (sp_place σ m s).2 σ') := by
  refine fm_start (by decide) rfl (Nat.le_of_ble_eq_true rfl) [some (fm_r ω 0), some (fm_I m), some (fm_I s)] rfl (fun Γ => ?_)
  have hf := hi.fi
  have b0 := hf.1
  have b6 := hf.2.1 6 (by omega)
  refine fm_ild1 dX9_place_0 ?_
  refine fm_iconst dX9_place_1 ?_
  refine fm_bipush (by decide) dX9_place_2 ?_
  refine fm_csI dX9_place_4 cl_X9_77 (k_X9_in ⟨by omega, by omega⟩ ⟨by omega, by omega⟩ ⟨by omega, by omega⟩) rfl rfl (by decide) rfl rfl (Nat.le_of_ble_eq_true rfl) (fun z4 s4 q4 => ?_)
  obtain ⟨q4, rfl⟩ := q4
  refine fm_if_eq (⟨by omega, by omega⟩) 19 dX9_place_7 (by decide) (fun h7 => ?_) (fun h7 => ?_)
  · refine fm_iconst dX9_place_19 ?_
    refine fm_iretI dX9_place_20 rfl ?_
    unfold sp_place
    first
      | (rw [if_pos (by omega)]; exact ⟨by omega, sam.rfl⟩)
      | (rw [if_neg (by omega), if_pos (by omega)]; exact ⟨by omega, sam.rfl⟩)
      | (rw [if_neg (by omega), if_neg (by omega)]; exact ⟨rfl, sam.rfl⟩)
  · refine fm_ild2 dX9_place_10 ?_
    refine fm_iconst dX9_place_11 ?_
    refine fm_iconst dX9_place_12 ?_
    refine fm_csI dX9_place_13 cl_X9_77 (k_X9_in ⟨by omega, by omega⟩ ⟨by omega, by omega⟩ ⟨by omega, by omega⟩) rfl rfl (by decide) rfl rfl (Nat.le_of_ble_eq_true rfl) (fun z13 s13 q13 => ?_)
    obtain ⟨q13, rfl⟩ := q13
    refine fm_if_ne (⟨by omega, by omega⟩) 21 dX9_place_16 (by decide) (fun h16 => ?_) (fun h16 => ?_)
    · refine fm_ald0 dX9_place_21 ?_
      refine gr_8_1 dX9_place_22 fd_X9_7 ?_
      refine fm_bipush (by decide) dX9_place_25 ?_
      refine fm_iald dX9_place_27 ma_1 (by omega) (by omega) ?_
      try simp (disch := omega) only [fm_up_ne, fm_up_nj, fm_up_eq]
      rw [show (6 : Int).toNat = 6 from rfl]
      refine fm_bipush (by decide) dX9_place_28 ?_
      refine fm_icmp_ne (⟨by omega, by omega⟩) (⟨by omega, by omega⟩) 36 dX9_place_30 (by decide) (fun h30 => ?_) (fun h30 => ?_)
      · refine fm_ald0 dX9_place_36 ?_
        refine gr_8_2 dX9_place_37 fd_X9_13 ?_
        refine fm_sipush (by decide) dX9_place_40 ?_
        refine fm_ald0 dX9_place_43 ?_
        refine gr_8_1 dX9_place_44 fd_X9_7 ?_
        refine fm_bipush (by decide) dX9_place_47 ?_
        refine fm_iald dX9_place_49 ma_1 (by omega) (by omega) ?_
        try simp (disch := omega) only [fm_up_ne, fm_up_nj, fm_up_eq]
        rw [show (6 : Int).toNat = 6 from rfl]
        refine fm_iadd dX9_place_50 ?_
        refine fm_ild1 dX9_place_51 ?_
        refine fm_iast dX9_place_52 ma_2 (by omega) (by omega) ?_
        refine fm_ald0 dX9_place_53 ?_
        refine gr_8_5 dX9_place_54 fd_X9_22 ?_
        refine fm_ald0 dX9_place_57 ?_
        refine gr_8_1 dX9_place_58 fd_X9_7 ?_
        refine fm_bipush (by decide) dX9_place_61 ?_
        refine fm_iald dX9_place_63 ma_1 (by omega) (by omega) ?_
        try simp (disch := omega) only [fm_up_ne, fm_up_nj, fm_up_eq]
        try rw [show (6 : Int).toNat = 6 from rfl]
        refine fm_ild2 dX9_place_64 ?_
        refine fm_iast dX9_place_65 ma_5 (by omega) (by omega) ?_
        refine fm_ald0 dX9_place_66 ?_
        refine gr_8_1 dX9_place_67 fd_X9_7 ?_
        refine fm_bipush (by decide) dX9_place_70 ?_
        refine fm_dup2 dX9_place_72 ?_
        refine fm_iald dX9_place_73 ma_1 (by omega) (by omega) ?_
        try simp (disch := omega) only [fm_up_ne, fm_up_nj, fm_up_eq]
        try rw [show (6 : Int).toNat = 6 from rfl]
        refine fm_iconst dX9_place_74 ?_
        refine fm_iadd dX9_place_75 ?_
        refine fm_iast dX9_place_76 ma_1 (by omega) (by omega) ?_
        try rw [show (6 : Int).toNat = 6 from rfl]
        refine fm_ald0 dX9_place_77 ?_
        refine gr_8_1 dX9_place_78 fd_X9_7 ?_
        refine fm_bipush (by decide) dX9_place_81 ?_
        refine fm_iald dX9_place_83 ma_1 (by omega) (by omega) ?_
        try simp (disch := omega) only [fm_up_ne, fm_up_nj, fm_up_eq]
        refine fm_iretI dX9_place_84 rfl ?_
        unfold sp_place
        first
          | (rw [if_pos (by omega)]; exact ⟨by omega, sam.rfl⟩)
          | (rw [if_neg (by omega), if_pos (by omega)]; exact ⟨by omega, sam.rfl⟩)
          | (rw [if_neg (by omega), if_neg (by omega)]; exact ⟨rfl, sam.rfl⟩)
      · refine fm_bipush (by decide) dX9_place_33 ?_
        refine fm_iretI dX9_place_35 rfl ?_
        unfold sp_place
        first
          | (rw [if_pos (by omega)]; exact ⟨by omega, sam.rfl⟩)
          | (rw [if_neg (by omega), if_pos (by omega)]; exact ⟨by omega, sam.rfl⟩)
          | (rw [if_neg (by omega), if_neg (by omega)]; exact ⟨rfl, sam.rfl⟩)
    · refine fm_iconst dX9_place_19 ?_
      refine fm_iretI dX9_place_20 rfl ?_
      unfold sp_place
      first
        | (rw [if_pos (by omega)]; exact ⟨by omega, sam.rfl⟩)
        | (rw [if_neg (by omega), if_pos (by omega)]; exact ⟨by omega, sam.rfl⟩)
        | (rw [if_neg (by omega), if_neg (by omega)]; exact ⟨rfl, sam.rfl⟩)
set_option maxRecDepth 20000 in
set_option maxHeartbeats 4000000 in
theorem k_X9_noScript {ω : fm_O} {σ : fm_Mem} (hi : fj σ)  : fm_Met km ω yX9_noScript cX9_noScript 2 (some .int) (fm_rm 0) [fm_r ω 0] σ (fm_pI fun z σ' => z = (sp_noScript σ).1 ∧ sam (sp_noScript σ).2 σ') := by
  refine fm_start (by decide) rfl (Nat.le_of_ble_eq_true rfl) [some (fm_r ω 0), none] rfl (fun Γ => ?_)
  have hf := hi.fi
  have b0 := hf.1
  refine fm_ald0 dX9_noScript_0 ?_
  refine gr_8_1 dX9_noScript_1 fd_X9_7 ?_
  refine fm_bipush (by decide) dX9_noScript_4 ?_
  refine fm_iald dX9_noScript_6 ma_1 (by omega) (by omega) ?_
  refine fm_ist1 rfl dX9_noScript_7 ?_
  refine fm_ald0 dX9_noScript_8 ?_
  refine gr_8_1 dX9_noScript_9 fd_X9_7 ?_
  refine fm_bipush (by decide) dX9_noScript_12 ?_
  refine fm_iconst dX9_noScript_14 ?_
  refine fm_iast dX9_noScript_15 ma_1 (by omega) (by omega) ?_
  refine fm_ild1 dX9_noScript_16 ?_
  exact fm_iretI dX9_noScript_17 rfl ⟨rfl, sam.rfl⟩
set_option maxRecDepth 20000 in
set_option maxHeartbeats 4000000 in
theorem k_X9_rule {ω : fm_O} {σ : fm_Mem} (hi : fj σ) {t v : Int} (rt : fm_R t) (rv : fm_R v) : fm_Met km ω yX9_rule cX9_rule 4 (some .int) (fm_rm 1) [fm_r ω 0, fm_I t, fm_I v] σ (fm_pI fun z σ' => z = (sp_rule σ t v).1 ∧ sam (sp_rule σ t v).2 σ') := by
  refine fm_start (by decide) rfl (Nat.le_of_ble_eq_true rfl) [some (fm_r ω 0), some (fm_I t), some (fm_I v), none] rfl (fun Γ => ?_)
  have hf := hi.fi
  have b0 := hf.1
  refine fm_ild1 dX9_rule_0 ?_
  refine fm_iconst dX9_rule_1 ?_
  refine fm_iconst dX9_rule_2 ?_
  refine fm_csI dX9_rule_3 cl_X9_77 (k_X9_in ⟨by omega, by omega⟩ ⟨by omega, by omega⟩ ⟨by omega, by omega⟩) rfl rfl (by decide) rfl rfl (Nat.le_of_ble_eq_true rfl) (fun z3 s3 q3 => ?_)
  obtain ⟨q3, rfl⟩ := q3
  refine fm_if_eq (⟨by omega, by omega⟩) 27 dX9_rule_6 (by decide) (fun h6 => ?_) (fun h6 => ?_)
  · refine fm_iconst dX9_rule_27 ?_
    refine fm_iretI dX9_rule_28 rfl ?_
    unfold sp_rule
    first
      | (rw [if_pos (by split <;> omega)]; exact ⟨by omega, sam.rfl⟩)
      | (rw [if_neg (by split <;> omega)]; exact ⟨rfl, sam.rfl⟩)
  · refine fm_ild2 dX9_rule_9 ?_
    refine fm_iconst dX9_rule_10 ?_
    refine fm_ild1 dX9_rule_11 ?_
    refine fm_if_ne (⟨by omega, by omega⟩) 19 dX9_rule_12 (by decide) (fun h12 => ?_) (fun h12 => ?_)
    · refine fm_bipush (by decide) dX9_rule_19 ?_
      refine fm_csI dX9_rule_21 cl_X9_77 (k_X9_in ⟨by omega, by omega⟩ ⟨by omega, by omega⟩ ⟨by omega, by omega⟩) rfl rfl (by decide) rfl rfl (Nat.le_of_ble_eq_true rfl) (fun z21 s21 q21 => ?_)
      obtain ⟨q21, rfl⟩ := q21
      refine fm_if_ne (⟨by omega, by omega⟩) 29 dX9_rule_24 (by decide) (fun h24 => ?_) (fun h24 => ?_)
      · refine fm_ald0 dX9_rule_29 ?_
        refine gr_8_6 dX9_rule_30 fd_X9_25 ?_
        refine fm_ild1 dX9_rule_33 ?_
        refine fm_iald dX9_rule_34 ma_6 (by omega) (by omega) ?_
        refine fm_ist3 rfl dX9_rule_35 ?_
        refine fm_ald0 dX9_rule_36 ?_
        refine gr_8_6 dX9_rule_37 fd_X9_25 ?_
        refine fm_ild1 dX9_rule_40 ?_
        refine fm_ild2 dX9_rule_41 ?_
        refine fm_iast dX9_rule_42 ma_6 (by omega) (by omega) ?_
        refine fm_ild3 dX9_rule_43 ?_
        refine fm_iretI dX9_rule_44 rfl ?_
        unfold sp_rule
        first
          | (rw [if_pos (by split <;> omega)]; exact ⟨by omega, sam.rfl⟩)
          | (rw [if_neg (by split <;> omega)]; exact ⟨rfl, sam.rfl⟩)
      · refine fm_iconst dX9_rule_27 ?_
        refine fm_iretI dX9_rule_28 rfl ?_
        unfold sp_rule
        first
          | (rw [if_pos (by split <;> omega)]; exact ⟨by omega, sam.rfl⟩)
          | (rw [if_neg (by split <;> omega)]; exact ⟨rfl, sam.rfl⟩)
    · refine fm_iconst dX9_rule_15 ?_
      refine fm_goto 21 dX9_rule_16 (by decide) ?_
      refine fm_csI dX9_rule_21 cl_X9_77 (k_X9_in ⟨by omega, by omega⟩ ⟨by omega, by omega⟩ ⟨by omega, by omega⟩) rfl rfl (by decide) rfl rfl (Nat.le_of_ble_eq_true rfl) (fun z21 s21 q21 => ?_)
      obtain ⟨q21, rfl⟩ := q21
      refine fm_if_ne (⟨by omega, by omega⟩) 29 dX9_rule_24 (by decide) (fun h24 => ?_) (fun h24 => ?_)
      · refine fm_ald0 dX9_rule_29 ?_
        refine gr_8_6 dX9_rule_30 fd_X9_25 ?_
        refine fm_ild1 dX9_rule_33 ?_
        refine fm_iald dX9_rule_34 ma_6 (by omega) (by omega) ?_
        refine fm_ist3 rfl dX9_rule_35 ?_
        refine fm_ald0 dX9_rule_36 ?_
        refine gr_8_6 dX9_rule_37 fd_X9_25 ?_
        refine fm_ild1 dX9_rule_40 ?_
        refine fm_ild2 dX9_rule_41 ?_
        refine fm_iast dX9_rule_42 ma_6 (by omega) (by omega) ?_
        refine fm_ild3 dX9_rule_43 ?_
        refine fm_iretI dX9_rule_44 rfl ?_
        unfold sp_rule
        first
          | (rw [if_pos (by split <;> omega)]; exact ⟨by omega, sam.rfl⟩)
          | (rw [if_neg (by split <;> omega)]; exact ⟨rfl, sam.rfl⟩)
      · refine fm_iconst dX9_rule_27 ?_
        refine fm_iretI dX9_rule_28 rfl ?_
        unfold sp_rule
        first
          | (rw [if_pos (by split <;> omega)]; exact ⟨by omega, sam.rfl⟩)
          | (rw [if_neg (by split <;> omega)]; exact ⟨rfl, sam.rfl⟩)
set_option maxRecDepth 20000 in
set_option maxHeartbeats 4000000 in
theorem k_X9_note {ω : fm_O} {σ : fm_Mem} (hi : fj σ) {c a b t : Int} (rc : fm_R c) (ra : fm_R a) (rb : fm_R b) (rt : fm_R t) : fm_Met km ω yX9_note cX9_note 5 (some .int) (fm_rm 3) [fm_r ω 0, fm_I c, fm_I a, fm_I b, fm_I t] σ (fm_pI fun z σ' => z = (sp_note σ c a b t).1 ∧ sam (sp_note σ c a b t).2 σ') := by
  refine fm_start (by decide) rfl (Nat.le_of_ble_eq_true rfl) [some (fm_r ω 0), some (fm_I c), some (fm_I a), some (fm_I b), some (fm_I t)] rfl (fun Γ => ?_)
  have hf := hi.fi
  have b0 := hf.1
  have b7 := hf.2.2.2.2.2.2.2.2.2.1
  refine fm_ald0 dX9_note_0 ?_
  refine fm_ild1 dX9_note_1 ?_
  refine fm_ild2 dX9_note_2 ?_
  refine fm_cvI dX9_note_3 cl_X9_91 (k_X9_isFrame ⟨by omega, by omega⟩ ⟨by omega, by omega⟩ hf) mb_0 rfl rfl (by decide) rfl rfl (Nat.le_of_ble_eq_true rfl) (fun z3 s3 q3 => ?_)
  obtain ⟨q3, rfl⟩ := q3
  refine fm_if_eq (⟨by omega, by omega⟩) 34 dX9_note_6 (by decide) (fun h6 => ?_) (fun h6 => ?_)
  · refine fm_iconst dX9_note_34 ?_
    refine fm_iretI dX9_note_35 rfl ?_
    unfold sp_note
    first
      | (rw [if_pos (by omega)]; exact ⟨by omega, sam.rfl⟩)
      | (rw [if_neg (by omega), if_pos (by omega)]; exact ⟨by omega, sam.rfl⟩)
      | (rw [if_neg (by omega), if_neg (by omega)]; exact ⟨rfl, sam.rfl⟩)
  · refine fm_ald0 dX9_note_9 ?_
    refine fm_ild1 dX9_note_10 ?_
    refine fm_ild3 dX9_note_11 ?_
    refine fm_cvI dX9_note_12 cl_X9_91 (k_X9_isFrame ⟨by omega, by omega⟩ ⟨by omega, by omega⟩ hf) mb_0 rfl rfl (by decide) rfl rfl (Nat.le_of_ble_eq_true rfl) (fun z12 s12 q12 => ?_)
    obtain ⟨q12, rfl⟩ := q12
    refine fm_if_eq (⟨by omega, by omega⟩) 34 dX9_note_15 (by decide) (fun h15 => ?_) (fun h15 => ?_)
    · refine fm_iconst dX9_note_34 ?_
      refine fm_iretI dX9_note_35 rfl ?_
      unfold sp_note
      first
        | (rw [if_pos (by omega)]; exact ⟨by omega, sam.rfl⟩)
        | (rw [if_neg (by omega), if_pos (by omega)]; exact ⟨by omega, sam.rfl⟩)
        | (rw [if_neg (by omega), if_neg (by omega)]; exact ⟨rfl, sam.rfl⟩)
    · refine fm_ild2 dX9_note_18 ?_
      refine fm_ild3 dX9_note_19 ?_
      refine fm_icmp_gt (⟨by omega, by omega⟩) (⟨by omega, by omega⟩) 34 dX9_note_20 (by decide) (fun h20 => ?_) (fun h20 => ?_)
      · refine fm_iconst dX9_note_34 ?_
        refine fm_iretI dX9_note_35 rfl ?_
        unfold sp_note
        first
          | (rw [if_pos (by omega)]; exact ⟨by omega, sam.rfl⟩)
          | (rw [if_neg (by omega), if_pos (by omega)]; exact ⟨by omega, sam.rfl⟩)
          | (rw [if_neg (by omega), if_neg (by omega)]; exact ⟨rfl, sam.rfl⟩)
      · refine fm_ild4 dX9_note_23 ?_
        refine fm_iconst dX9_note_25 ?_
        refine fm_bipush (by decide) dX9_note_26 ?_
        refine fm_csI dX9_note_28 cl_X9_77 (k_X9_in ⟨by omega, by omega⟩ ⟨by omega, by omega⟩ ⟨by omega, by omega⟩) rfl rfl (by decide) rfl rfl (Nat.le_of_ble_eq_true rfl) (fun z28 s28 q28 => ?_)
        obtain ⟨q28, rfl⟩ := q28
        refine fm_if_ne (⟨by omega, by omega⟩) 36 dX9_note_31 (by decide) (fun h31 => ?_) (fun h31 => ?_)
        · refine fm_ald0 dX9_note_36 ?_
          refine gi_8_7 dX9_note_37 fd_X9_140 ?_
          try simp (disch := omega) only [fm_up_ne, fm_up_nj, fm_up_eq]
          refine fm_bipush (by decide) dX9_note_40 ?_
          refine fm_icmp_ne (⟨by omega, by omega⟩) (⟨by omega, by omega⟩) 48 dX9_note_42 (by decide) (fun h42 => ?_) (fun h42 => ?_)
          · refine fm_ald0 dX9_note_48 ?_
            refine gr_8_8 dX9_note_49 fd_X9_28 ?_
            refine fm_ald0 dX9_note_52 ?_
            refine gi_8_7 dX9_note_53 fd_X9_140 ?_
            try simp (disch := omega) only [fm_up_ne, fm_up_nj, fm_up_eq]
            refine fm_ild1 dX9_note_56 ?_
            refine fm_iast dX9_note_57 ma_7 (by omega) (by omega) ?_
            refine fm_ald0 dX9_note_58 ?_
            refine gr_8_9 dX9_note_59 fd_X9_31 ?_
            refine fm_ald0 dX9_note_62 ?_
            refine gi_8_7 dX9_note_63 fd_X9_140 ?_
            try simp (disch := omega) only [fm_up_ne, fm_up_nj, fm_up_eq]
            refine fm_ild2 dX9_note_66 ?_
            refine fm_iast dX9_note_67 ma_8 (by omega) (by omega) ?_
            refine fm_ald0 dX9_note_68 ?_
            refine gr_8_10 dX9_note_69 fd_X9_34 ?_
            refine fm_ald0 dX9_note_72 ?_
            refine gi_8_7 dX9_note_73 fd_X9_140 ?_
            try simp (disch := omega) only [fm_up_ne, fm_up_nj, fm_up_eq]
            refine fm_ild3 dX9_note_76 ?_
            refine fm_iast dX9_note_77 ma_9 (by omega) (by omega) ?_
            refine fm_ald0 dX9_note_78 ?_
            refine gr_8_11 dX9_note_79 fd_X9_37 ?_
            refine fm_ald0 dX9_note_82 ?_
            refine gi_8_7 dX9_note_83 fd_X9_140 ?_
            try simp (disch := omega) only [fm_up_ne, fm_up_nj, fm_up_eq]
            refine fm_ild4 dX9_note_86 ?_
            refine fm_iast dX9_note_88 ma_10 (by omega) (by omega) ?_
            refine fm_ald0 dX9_note_89 ?_
            refine fm_dupR dX9_note_90 ?_
            refine gi_8_7 dX9_note_91 fd_X9_140 ?_
            try simp (disch := omega) only [fm_up_ne, fm_up_nj, fm_up_eq]
            refine fm_iconst dX9_note_94 ?_
            refine fm_iadd dX9_note_95 ?_
            refine pf_8_7 dX9_note_96 fd_X9_140 ?_
            refine fm_ald0 dX9_note_99 ?_
            refine gi_8_7 dX9_note_100 fd_X9_140 ?_
            try simp (disch := omega) only [fm_up_ne, fm_up_nj, fm_up_eq]
            refine fm_iretI dX9_note_103 rfl ?_
            unfold sp_note
            first
              | (rw [if_pos (by omega)]; exact ⟨by omega, sam.rfl⟩)
              | (rw [if_neg (by omega), if_pos (by omega)]; exact ⟨by omega, sam.rfl⟩)
              | (rw [if_neg (by omega), if_neg (by omega)]; exact ⟨rfl, sam.rfl⟩)
          · refine fm_bipush (by decide) dX9_note_45 ?_
            refine fm_iretI dX9_note_47 rfl ?_
            unfold sp_note
            first
              | (rw [if_pos (by omega)]; exact ⟨by omega, sam.rfl⟩)
              | (rw [if_neg (by omega), if_pos (by omega)]; exact ⟨by omega, sam.rfl⟩)
              | (rw [if_neg (by omega), if_neg (by omega)]; exact ⟨rfl, sam.rfl⟩)
        · refine fm_iconst dX9_note_34 ?_
          refine fm_iretI dX9_note_35 rfl ?_
          unfold sp_note
          first
            | (rw [if_pos (by omega)]; exact ⟨by omega, sam.rfl⟩)
            | (rw [if_neg (by omega), if_pos (by omega)]; exact ⟨by omega, sam.rfl⟩)
            | (rw [if_neg (by omega), if_neg (by omega)]; exact ⟨rfl, sam.rfl⟩)
set_option maxRecDepth 20000 in
set_option maxHeartbeats 4000000 in
theorem k_X9_cue {ω : fm_O} {σ : fm_Mem} (hi : fj σ) {a b v : Int} (ra : fm_R a) (rb : fm_R b) (rv : fm_R v) : fm_Met km ω yX9_cue cX9_cue 4 (some .int) (fm_rm 1) [fm_r ω 0, fm_I a, fm_I b, fm_I v] σ (fm_pI fun z σ' => z = (sp_cue σ a b v).1 ∧ sam (sp_cue σ a b v).2 σ') := by
  refine fm_start (by decide) rfl (Nat.le_of_ble_eq_true rfl) [some (fm_r ω 0), some (fm_I a), some (fm_I b), some (fm_I v)] rfl (fun Γ => ?_)
  have hf := hi.fi
  have b0 := hf.1
  have b7 := hf.2.2.2.2.2.2.2.2.2.2.2.1
  refine fm_ild1 dX9_cue_0 ?_
  refine fm_iconst dX9_cue_1 ?_
  refine fm_iconst dX9_cue_2 ?_
  refine fm_csI dX9_cue_3 cl_X9_77 (k_X9_in ⟨by omega, by omega⟩ ⟨by omega, by omega⟩ ⟨by omega, by omega⟩) rfl rfl (by decide) rfl rfl (Nat.le_of_ble_eq_true rfl) (fun z3 s3 q3 => ?_)
  obtain ⟨q3, rfl⟩ := q3
  refine fm_if_eq (⟨by omega, by omega⟩) 33 dX9_cue_6 (by decide) (fun h6 => ?_) (fun h6 => ?_)
  · refine fm_iconst dX9_cue_33 ?_
    refine fm_iretI dX9_cue_34 rfl ?_
    unfold sp_cue
    first
      | (rw [if_pos (by omega)]; exact ⟨by omega, sam.rfl⟩)
      | (rw [if_neg (by omega), if_pos (by omega)]; exact ⟨by omega, sam.rfl⟩)
      | (rw [if_neg (by omega), if_neg (by omega)]; exact ⟨rfl, sam.rfl⟩)
  · refine fm_ild2 dX9_cue_9 ?_
    refine fm_iconst dX9_cue_10 ?_
    refine fm_iconst dX9_cue_11 ?_
    refine fm_csI dX9_cue_12 cl_X9_77 (k_X9_in ⟨by omega, by omega⟩ ⟨by omega, by omega⟩ ⟨by omega, by omega⟩) rfl rfl (by decide) rfl rfl (Nat.le_of_ble_eq_true rfl) (fun z12 s12 q12 => ?_)
    obtain ⟨q12, rfl⟩ := q12
    refine fm_if_eq (⟨by omega, by omega⟩) 33 dX9_cue_15 (by decide) (fun h15 => ?_) (fun h15 => ?_)
    · refine fm_iconst dX9_cue_33 ?_
      refine fm_iretI dX9_cue_34 rfl ?_
      unfold sp_cue
      first
        | (rw [if_pos (by omega)]; exact ⟨by omega, sam.rfl⟩)
        | (rw [if_neg (by omega), if_pos (by omega)]; exact ⟨by omega, sam.rfl⟩)
        | (rw [if_neg (by omega), if_neg (by omega)]; exact ⟨rfl, sam.rfl⟩)
    · refine fm_ild1 dX9_cue_18 ?_
      refine fm_ild2 dX9_cue_19 ?_
      refine fm_icmp_eq (⟨by omega, by omega⟩) (⟨by omega, by omega⟩) 33 dX9_cue_20 (by decide) (fun h20 => ?_) (fun h20 => ?_)
      · refine fm_iconst dX9_cue_33 ?_
        refine fm_iretI dX9_cue_34 rfl ?_
        unfold sp_cue
        first
          | (rw [if_pos (by omega)]; exact ⟨by omega, sam.rfl⟩)
          | (rw [if_neg (by omega), if_pos (by omega)]; exact ⟨by omega, sam.rfl⟩)
          | (rw [if_neg (by omega), if_neg (by omega)]; exact ⟨rfl, sam.rfl⟩)
      · refine fm_ild3 dX9_cue_23 ?_
        refine fm_iconst dX9_cue_24 ?_
        refine fm_bipush (by decide) dX9_cue_25 ?_
        refine fm_csI dX9_cue_27 cl_X9_77 (k_X9_in ⟨by omega, by omega⟩ ⟨by omega, by omega⟩ ⟨by omega, by omega⟩) rfl rfl (by decide) rfl rfl (Nat.le_of_ble_eq_true rfl) (fun z27 s27 q27 => ?_)
        obtain ⟨q27, rfl⟩ := q27
        refine fm_if_ne (⟨by omega, by omega⟩) 35 dX9_cue_30 (by decide) (fun h30 => ?_) (fun h30 => ?_)
        · refine fm_ald0 dX9_cue_35 ?_
          refine gi_8_12 dX9_cue_36 fd_X9_146 ?_
          try simp (disch := omega) only [fm_up_ne, fm_up_nj, fm_up_eq]
          refine fm_bipush (by decide) dX9_cue_39 ?_
          refine fm_icmp_ne (⟨by omega, by omega⟩) (⟨by omega, by omega⟩) 47 dX9_cue_41 (by decide) (fun h41 => ?_) (fun h41 => ?_)
          · refine fm_ald0 dX9_cue_47 ?_
            refine gr_8_13 dX9_cue_48 fd_X9_40 ?_
            refine fm_ald0 dX9_cue_51 ?_
            refine gi_8_12 dX9_cue_52 fd_X9_146 ?_
            try simp (disch := omega) only [fm_up_ne, fm_up_nj, fm_up_eq]
            refine fm_ild1 dX9_cue_55 ?_
            refine fm_iast dX9_cue_56 ma_11 (by omega) (by omega) ?_
            refine fm_ald0 dX9_cue_57 ?_
            refine gr_8_14 dX9_cue_58 fd_X9_43 ?_
            refine fm_ald0 dX9_cue_61 ?_
            refine gi_8_12 dX9_cue_62 fd_X9_146 ?_
            try simp (disch := omega) only [fm_up_ne, fm_up_nj, fm_up_eq]
            refine fm_ild2 dX9_cue_65 ?_
            refine fm_iast dX9_cue_66 ma_12 (by omega) (by omega) ?_
            refine fm_ald0 dX9_cue_67 ?_
            refine gr_8_15 dX9_cue_68 fd_X9_46 ?_
            refine fm_ald0 dX9_cue_71 ?_
            refine gi_8_12 dX9_cue_72 fd_X9_146 ?_
            try simp (disch := omega) only [fm_up_ne, fm_up_nj, fm_up_eq]
            refine fm_ild3 dX9_cue_75 ?_
            refine fm_iast dX9_cue_76 ma_13 (by omega) (by omega) ?_
            refine fm_ald0 dX9_cue_77 ?_
            refine fm_dupR dX9_cue_78 ?_
            refine gi_8_12 dX9_cue_79 fd_X9_146 ?_
            try simp (disch := omega) only [fm_up_ne, fm_up_nj, fm_up_eq]
            refine fm_iconst dX9_cue_82 ?_
            refine fm_iadd dX9_cue_83 ?_
            refine pf_8_12 dX9_cue_84 fd_X9_146 ?_
            refine fm_ald0 dX9_cue_87 ?_
            refine gi_8_12 dX9_cue_88 fd_X9_146 ?_
            try simp (disch := omega) only [fm_up_ne, fm_up_nj, fm_up_eq]
            refine fm_iretI dX9_cue_91 rfl ?_
            unfold sp_cue
            first
              | (rw [if_pos (by omega)]; exact ⟨by omega, sam.rfl⟩)
              | (rw [if_neg (by omega), if_pos (by omega)]; exact ⟨by omega, sam.rfl⟩)
              | (rw [if_neg (by omega), if_neg (by omega)]; exact ⟨rfl, sam.rfl⟩)
          · refine fm_bipush (by decide) dX9_cue_44 ?_
            refine fm_iretI dX9_cue_46 rfl ?_
            unfold sp_cue
            first
              | (rw [if_pos (by omega)]; exact ⟨by omega, sam.rfl⟩)
              | (rw [if_neg (by omega), if_pos (by omega)]; exact ⟨by omega, sam.rfl⟩)
              | (rw [if_neg (by omega), if_neg (by omega)]; exact ⟨rfl, sam.rfl⟩)
        · refine fm_iconst dX9_cue_33 ?_
          refine fm_iretI dX9_cue_34 rfl ?_
          unfold sp_cue
          first
            | (rw [if_pos (by omega)]; exact ⟨by omega, sam.rfl⟩)
            | (rw [if_neg (by omega), if_pos (by omega)]; exact ⟨by omega, sam.rfl⟩)
            | (rw [if_neg (by omega), if_neg (by omega)]; exact ⟨rfl, sam.rfl⟩)
set_option maxRecDepth 20000 in
set_option maxHeartbeats 4000000 in
theorem k_X9_noCues {ω : fm_O} {σ : fm_Mem} (hi : fj σ)  : fm_Met km ω yX9_noCues cX9_noCues 2 (some .int) (fm_rm 0) [fm_r ω 0] σ (fm_pI fun z σ' => z = (sp_noCues σ).1 ∧ sam (sp_noCues σ).2 σ') := by
  refine fm_start (by decide) rfl (Nat.le_of_ble_eq_true rfl) [some (fm_r ω 0), none] rfl (fun Γ => ?_)
  have hf := hi.fi
  have b0 := hf.1
  refine fm_ald0 dX9_noCues_0 ?_
  refine gi_8_12 dX9_noCues_1 fd_X9_146 ?_
  refine fm_ist1 rfl dX9_noCues_4 ?_
  refine fm_ald0 dX9_noCues_5 ?_
  refine fm_iconst dX9_noCues_6 ?_
  refine pf_8_12 dX9_noCues_7 fd_X9_146 ?_
  refine fm_ild1 dX9_noCues_10 ?_
  exact fm_iretI dX9_noCues_11 rfl ⟨rfl, sam.rfl⟩
set_option maxRecDepth 20000 in
set_option maxHeartbeats 4000000 in
theorem k_X9_undo {ω : fm_O} {σ : fm_Mem} (hi : fj σ)  : fm_Met km ω yX9_undo cX9_undo 1 (some .int) (fm_rm 0) [fm_r ω 0] σ (fm_pI fun z σ' => z = (sp_undo σ).1 ∧ sam (sp_undo σ).2 σ') := by
  refine fm_start (by decide) rfl (Nat.le_of_ble_eq_true rfl) [some (fm_r ω 0)] rfl (fun Γ => ?_)
  have hf := hi.fi
  have b0 := hf.1
  have bt := hf.2.2.2.2.2.2.2.2.2.2.2.2.2.1
  refine fm_ald0 dX9_undo_0 ?_
  refine gi_8_16 dX9_undo_1 fd_X9_95 ?_
  try simp (disch := omega) only [fm_up_ne, fm_up_nj, fm_up_eq]
  refine fm_if_ne (⟨by omega, by omega⟩) 10 dX9_undo_4 (by decide) (fun h4 => ?_) (fun h4 => ?_)
  · have b14 := (hf.2.2.2.2.2.2.2.2.2.2.2.2.2.2 (σ 0 16 - 1).toNat).1
    refine fm_ald0 dX9_undo_10 ?_
    refine fm_dupR dX9_undo_11 ?_
    refine gi_8_16 dX9_undo_12 fd_X9_95 ?_
    try simp (disch := omega) only [fm_up_ne, fm_up_nj, fm_up_eq]
    refine fm_iconst dX9_undo_15 ?_
    refine fm_isub dX9_undo_16 ?_
    refine pf_8_16 dX9_undo_17 fd_X9_95 ?_
    refine fm_ald0 dX9_undo_20 ?_
    refine gr_8_3 dX9_undo_21 fd_X9_16 ?_
    refine fm_ald0 dX9_undo_24 ?_
    refine gr_8_17 dX9_undo_25 fd_X9_49 ?_
    refine fm_ald0 dX9_undo_28 ?_
    refine gi_8_16 dX9_undo_29 fd_X9_95 ?_
    try simp (disch := omega) only [fm_up_ne, fm_up_nj, fm_up_eq]
    refine fm_iald dX9_undo_32 ma_14 (by omega) (by omega) ?_
    try simp (disch := omega) only [fm_up_ne, fm_up_nj, fm_up_eq]
    refine fm_ald0 dX9_undo_33 ?_
    refine gr_8_18 dX9_undo_34 fd_X9_52 ?_
    refine fm_ald0 dX9_undo_37 ?_
    refine gi_8_16 dX9_undo_38 fd_X9_95 ?_
    try simp (disch := omega) only [fm_up_ne, fm_up_nj, fm_up_eq]
    refine fm_iald dX9_undo_41 ma_15 (by omega) (by omega) ?_
    try simp (disch := omega) only [fm_up_ne, fm_up_nj, fm_up_eq]
    refine fm_iast dX9_undo_42 ma_3 (by omega) (by omega) ?_
    refine fm_ald0 dX9_undo_43 ?_
    refine gr_8_17 dX9_undo_44 fd_X9_49 ?_
    refine fm_ald0 dX9_undo_47 ?_
    refine gi_8_16 dX9_undo_48 fd_X9_95 ?_
    try simp (disch := omega) only [fm_up_ne, fm_up_nj, fm_up_eq]
    refine fm_iald dX9_undo_51 ma_14 (by omega) (by omega) ?_
    try simp (disch := omega) only [fm_up_ne, fm_up_nj, fm_up_eq]
    refine fm_bipush (by decide) dX9_undo_52 ?_
    refine fm_idiv (σ 14 (σ 0 16 - 1).toNat / 40) (by decide) (fm_divL (by omega) (by omega) (by omega) (by omega)) dX9_undo_54 ?_
    refine fm_bipush (by decide) dX9_undo_55 ?_
    refine fm_imul dX9_undo_57 ?_
    refine fm_ald0 dX9_undo_58 ?_
    refine gr_8_17 dX9_undo_59 fd_X9_49 ?_
    refine fm_ald0 dX9_undo_62 ?_
    refine gi_8_16 dX9_undo_63 fd_X9_95 ?_
    try simp (disch := omega) only [fm_up_ne, fm_up_nj, fm_up_eq]
    refine fm_iald dX9_undo_66 ma_14 (by omega) (by omega) ?_
    try simp (disch := omega) only [fm_up_ne, fm_up_nj, fm_up_eq]
    refine fm_bipush (by decide) dX9_undo_67 ?_
    refine fm_irem (σ 14 (σ 0 16 - 1).toNat % 40) (by decide) (fm_remL (by omega) (by omega) (by omega) (by omega)) dX9_undo_69 ?_
    refine fm_iadd dX9_undo_70 ?_
    refine fm_iretI dX9_undo_71 rfl ?_
    unfold sp_undo
    first
      | (rw [if_pos (by omega)]; exact ⟨by omega, sam.rfl⟩)
      | (rw [if_neg (by omega)]; exact ⟨rfl, sam.rfl⟩)
  · refine fm_bipush (by decide) dX9_undo_7 ?_
    refine fm_iretI dX9_undo_9 rfl ?_
    unfold sp_undo
    first
      | (rw [if_pos (by omega)]; exact ⟨by omega, sam.rfl⟩)
      | (rw [if_neg (by omega)]; exact ⟨rfl, sam.rfl⟩)
set_option maxRecDepth 20000 in
set_option maxHeartbeats 4000000 in
theorem k_X9_count {ω : fm_O} {σ : fm_Mem} (hi : fj σ) {t : Int} (rt : fm_R t) : fm_Met km ω yX9_count cX9_count 2 (some .int) (fm_rm 0) [fm_r ω 0, fm_I t] σ (fm_pI fun z σ' => z = sp_count σ t ∧ sam σ σ') := by
  refine fm_start (by decide) rfl (Nat.le_of_ble_eq_true rfl) [some (fm_r ω 0), some (fm_I t)] rfl (fun Γ => ?_)
  have hf := hi.fi
  have b0 := hf.1
  refine fm_ild1 dX9_count_0 ?_
  rcases (show t = 0 ∨ t = 1 ∨ t = 2 ∨ t = 3 ∨ t = 4 ∨ (t < 0 ∨ 4 < t) by omega) with hsw | hsw | hsw | hsw | hsw | hsw
  · refine fm_tabIn (off := 35) 36 dX9_count_1 (⟨by omega, by omega⟩) (by omega) (by omega) (by rw [hsw]; rfl) (by decide) ?_
    refine fm_ald0 dX9_count_36 ?_
    refine gi_8_0 dX9_count_37 fd_X9_73 ?_
    refine fm_iretI dX9_count_40 rfl ?_
    unfold sp_count
    first
      | (rw [if_pos (by omega)]; exact ⟨rfl, sam.rfl⟩)
      | (rw [if_neg (by omega), if_pos (by omega)]; exact ⟨rfl, sam.rfl⟩)
      | (rw [if_neg (by omega), if_neg (by omega), if_pos (by omega)]; exact ⟨rfl, sam.rfl⟩)
      | (rw [if_neg (by omega), if_neg (by omega), if_neg (by omega), if_pos (by omega)]; exact ⟨rfl, sam.rfl⟩)
      | (rw [if_neg (by omega), if_neg (by omega), if_neg (by omega), if_neg (by omega), if_pos (by omega)]; exact ⟨rfl, sam.rfl⟩)
      | (rw [if_neg (by omega), if_neg (by omega), if_neg (by omega), if_neg (by omega), if_neg (by omega)]; exact ⟨rfl, sam.rfl⟩)
  · refine fm_tabIn (off := 40) 41 dX9_count_1 (⟨by omega, by omega⟩) (by omega) (by omega) (by rw [hsw]; rfl) (by decide) ?_
    refine fm_ald0 dX9_count_41 ?_
    refine gr_8_1 dX9_count_42 fd_X9_7 ?_
    refine fm_bipush (by decide) dX9_count_45 ?_
    refine fm_iald dX9_count_47 ma_1 (by omega) (by omega) ?_
    refine fm_iretI dX9_count_48 rfl ?_
    unfold sp_count
    first
      | (rw [if_pos (by omega)]; exact ⟨rfl, sam.rfl⟩)
      | (rw [if_neg (by omega), if_pos (by omega)]; exact ⟨rfl, sam.rfl⟩)
      | (rw [if_neg (by omega), if_neg (by omega), if_pos (by omega)]; exact ⟨rfl, sam.rfl⟩)
      | (rw [if_neg (by omega), if_neg (by omega), if_neg (by omega), if_pos (by omega)]; exact ⟨rfl, sam.rfl⟩)
      | (rw [if_neg (by omega), if_neg (by omega), if_neg (by omega), if_neg (by omega), if_pos (by omega)]; exact ⟨rfl, sam.rfl⟩)
      | (rw [if_neg (by omega), if_neg (by omega), if_neg (by omega), if_neg (by omega), if_neg (by omega)]; exact ⟨rfl, sam.rfl⟩)
  · refine fm_tabIn (off := 48) 49 dX9_count_1 (⟨by omega, by omega⟩) (by omega) (by omega) (by rw [hsw]; rfl) (by decide) ?_
    refine fm_ald0 dX9_count_49 ?_
    refine gi_8_7 dX9_count_50 fd_X9_140 ?_
    refine fm_iretI dX9_count_53 rfl ?_
    unfold sp_count
    first
      | (rw [if_pos (by omega)]; exact ⟨rfl, sam.rfl⟩)
      | (rw [if_neg (by omega), if_pos (by omega)]; exact ⟨rfl, sam.rfl⟩)
      | (rw [if_neg (by omega), if_neg (by omega), if_pos (by omega)]; exact ⟨rfl, sam.rfl⟩)
      | (rw [if_neg (by omega), if_neg (by omega), if_neg (by omega), if_pos (by omega)]; exact ⟨rfl, sam.rfl⟩)
      | (rw [if_neg (by omega), if_neg (by omega), if_neg (by omega), if_neg (by omega), if_pos (by omega)]; exact ⟨rfl, sam.rfl⟩)
      | (rw [if_neg (by omega), if_neg (by omega), if_neg (by omega), if_neg (by omega), if_neg (by omega)]; exact ⟨rfl, sam.rfl⟩)
  · refine fm_tabIn (off := 53) 54 dX9_count_1 (⟨by omega, by omega⟩) (by omega) (by omega) (by rw [hsw]; rfl) (by decide) ?_
    refine fm_ald0 dX9_count_54 ?_
    refine gi_8_12 dX9_count_55 fd_X9_146 ?_
    refine fm_iretI dX9_count_58 rfl ?_
    unfold sp_count
    first
      | (rw [if_pos (by omega)]; exact ⟨rfl, sam.rfl⟩)
      | (rw [if_neg (by omega), if_pos (by omega)]; exact ⟨rfl, sam.rfl⟩)
      | (rw [if_neg (by omega), if_neg (by omega), if_pos (by omega)]; exact ⟨rfl, sam.rfl⟩)
      | (rw [if_neg (by omega), if_neg (by omega), if_neg (by omega), if_pos (by omega)]; exact ⟨rfl, sam.rfl⟩)
      | (rw [if_neg (by omega), if_neg (by omega), if_neg (by omega), if_neg (by omega), if_pos (by omega)]; exact ⟨rfl, sam.rfl⟩)
      | (rw [if_neg (by omega), if_neg (by omega), if_neg (by omega), if_neg (by omega), if_neg (by omega)]; exact ⟨rfl, sam.rfl⟩)
  · refine fm_tabIn (off := 58) 59 dX9_count_1 (⟨by omega, by omega⟩) (by omega) (by omega) (by rw [hsw]; rfl) (by decide) ?_
    refine fm_ald0 dX9_count_59 ?_
    refine gi_8_16 dX9_count_60 fd_X9_95 ?_
    refine fm_iretI dX9_count_63 rfl ?_
    unfold sp_count
    first
      | (rw [if_pos (by omega)]; exact ⟨rfl, sam.rfl⟩)
      | (rw [if_neg (by omega), if_pos (by omega)]; exact ⟨rfl, sam.rfl⟩)
      | (rw [if_neg (by omega), if_neg (by omega), if_pos (by omega)]; exact ⟨rfl, sam.rfl⟩)
      | (rw [if_neg (by omega), if_neg (by omega), if_neg (by omega), if_pos (by omega)]; exact ⟨rfl, sam.rfl⟩)
      | (rw [if_neg (by omega), if_neg (by omega), if_neg (by omega), if_neg (by omega), if_pos (by omega)]; exact ⟨rfl, sam.rfl⟩)
      | (rw [if_neg (by omega), if_neg (by omega), if_neg (by omega), if_neg (by omega), if_neg (by omega)]; exact ⟨rfl, sam.rfl⟩)
  · refine fm_tabOut (⟨by omega, by omega⟩) 64 dX9_count_1 hsw (by decide) ?_
    refine fm_iconst dX9_count_64 ?_
    refine fm_iretI dX9_count_65 rfl ?_
    unfold sp_count
    first
      | (rw [if_pos (by omega)]; exact ⟨rfl, sam.rfl⟩)
      | (rw [if_neg (by omega), if_pos (by omega)]; exact ⟨rfl, sam.rfl⟩)
      | (rw [if_neg (by omega), if_neg (by omega), if_pos (by omega)]; exact ⟨rfl, sam.rfl⟩)
      | (rw [if_neg (by omega), if_neg (by omega), if_neg (by omega), if_pos (by omega)]; exact ⟨rfl, sam.rfl⟩)
      | (rw [if_neg (by omega), if_neg (by omega), if_neg (by omega), if_neg (by omega), if_pos (by omega)]; exact ⟨rfl, sam.rfl⟩)
      | (rw [if_neg (by omega), if_neg (by omega), if_neg (by omega), if_neg (by omega), if_neg (by omega)]; exact ⟨rfl, sam.rfl⟩)
set_option maxRecDepth 20000 in
set_option maxHeartbeats 4000000 in
theorem l_X9_tintOf {ω : fm_O} {σ : fm_Mem} {c i : Int} (rc : fm_R c) (ri : fm_R i) (hf : fi σ) {Γ : fm_G} : ∀ (d : Nat) (z t : Int), 0 ≤ z → z + d = σ 0 7 → t = ltint (σ 7) (σ 8) (σ 9) (σ 10) c i z.toNat → fm_W km ω Γ (cX9_tintOf, RX9, fm_rm 1, 5, (some .int)) (fm_pI fun z σ' => z = ltint (σ 7) (σ 8) (σ 9) (σ 10) c i (σ 0 7).toNat ∧ σ = σ') σ 5 [some (fm_r ω 0), some (fm_I c), some (fm_I i), some (fm_I t), some (fm_I z)] [] := by
  have b7 := hf.2.2.2.2.2.2.2.2.2.1
  intro d
  induction d with
  | zero =>
    intro z t h0 hz ht
    refine fm_ild4 dX9_tintOf_5 ?_
    refine fm_ald0 dX9_tintOf_7 ?_
    refine gi_8_7 dX9_tintOf_8 fd_X9_140 ?_
    refine fm_icmp_ge (⟨by omega, by omega⟩) (⟨by omega, by omega⟩) 64 dX9_tintOf_11 (by decide) (fun h11 => ?_) (fun h11 => ?_)
    · refine fm_ild3 dX9_tintOf_64 ?_
      exact fm_iretI dX9_tintOf_65 rfl ⟨by rw [ht, show z = σ 0 7 by omega], rfl⟩
    · exfalso; omega
  | succ d ih =>
    intro z t h0 hz ht
    obtain ⟨n7, n8, n9, n10⟩ := hf.2.2.2.2.2.2.2.2.2.2.1 z.toNat
    have e1 : (z + 1).toNat = z.toNat + 1 := by omega
    refine fm_ild4 dX9_tintOf_5 ?_
    refine fm_ald0 dX9_tintOf_7 ?_
    refine gi_8_7 dX9_tintOf_8 fd_X9_140 ?_
    refine fm_icmp_ge (⟨by omega, by omega⟩) (⟨by omega, by omega⟩) 64 dX9_tintOf_11 (by decide) (fun h11 => ?_) (fun h11 => ?_)
    · exfalso; omega
    · refine fm_ald0 dX9_tintOf_14 ?_
      refine gr_8_8 dX9_tintOf_15 fd_X9_28 ?_
      refine fm_ild4 dX9_tintOf_18 ?_
      refine fm_iald dX9_tintOf_20 ma_7 (by omega) (by omega) ?_
      refine fm_ild1 dX9_tintOf_21 ?_
      refine fm_icmp_ne (⟨by omega, by omega⟩) (⟨by omega, by omega⟩) 56 dX9_tintOf_22 (by decide) (fun h22 => ?_) (fun h22 => ?_)
      · refine fm_ild3 dX9_tintOf_56 ?_
        refine fm_ist3 rfl dX9_tintOf_57 ?_
        refine fm_inc4 rfl dX9_tintOf_58 ?_
        refine fm_goto 5 dX9_tintOf_61 (by decide) ?_
        refine ih (z + 1) _ (by omega) (by omega) ?_
        rw [e1, ltint]
        first
          | (rw [if_pos (by omega)]; done)
          | (rw [if_neg (by omega)]; exact ht)
      · refine fm_ild2 dX9_tintOf_25 ?_
        refine fm_ald0 dX9_tintOf_26 ?_
        refine gr_8_9 dX9_tintOf_27 fd_X9_31 ?_
        refine fm_ild4 dX9_tintOf_30 ?_
        refine fm_iald dX9_tintOf_32 ma_8 (by omega) (by omega) ?_
        refine fm_ald0 dX9_tintOf_33 ?_
        refine gr_8_10 dX9_tintOf_34 fd_X9_34 ?_
        refine fm_ild4 dX9_tintOf_37 ?_
        refine fm_iald dX9_tintOf_39 ma_9 (by omega) (by omega) ?_
        refine fm_csI dX9_tintOf_40 cl_X9_77 (k_X9_in ⟨by omega, by omega⟩ ⟨by omega, by omega⟩ ⟨by omega, by omega⟩) rfl rfl (by decide) rfl rfl (Nat.le_of_ble_eq_true rfl) (fun z40 s40 q40 => ?_)
        obtain ⟨q40, rfl⟩ := q40
        refine fm_if_eq (⟨by omega, by omega⟩) 56 dX9_tintOf_43 (by decide) (fun h43 => ?_) (fun h43 => ?_)
        · refine fm_ild3 dX9_tintOf_56 ?_
          refine fm_ist3 rfl dX9_tintOf_57 ?_
          refine fm_inc4 rfl dX9_tintOf_58 ?_
          refine fm_goto 5 dX9_tintOf_61 (by decide) ?_
          refine ih (z + 1) _ (by omega) (by omega) ?_
          rw [e1, ltint]
          first
            | (rw [if_pos (by omega)]; done)
            | (rw [if_neg (by omega)]; exact ht)
        · refine fm_ald0 dX9_tintOf_46 ?_
          refine gr_8_11 dX9_tintOf_47 fd_X9_37 ?_
          refine fm_ild4 dX9_tintOf_50 ?_
          refine fm_iald dX9_tintOf_52 ma_10 (by omega) (by omega) ?_
          refine fm_goto 57 dX9_tintOf_53 (by decide) ?_
          refine fm_ist3 rfl dX9_tintOf_57 ?_
          refine fm_inc4 rfl dX9_tintOf_58 ?_
          refine fm_goto 5 dX9_tintOf_61 (by decide) ?_
          refine ih (z + 1) _ (by omega) (by omega) ?_
          rw [e1, ltint]
          first
            | (rw [if_pos (by omega)]; done)
            | (rw [if_neg (by omega)]; exact ht)
set_option maxRecDepth 20000 in
set_option maxHeartbeats 4000000 in
theorem k_X9_tintOf {ω : fm_O} {σ : fm_Mem} {c i : Int} (rc : fm_R c) (ri : fm_R i) (hf : fi σ) : fm_Met km ω yX9_tintOf cX9_tintOf 5 (some .int) (fm_rm 1) [fm_r ω 0, fm_I c, fm_I i] σ (fm_pI fun z σ' => z = ltint (σ 7) (σ 8) (σ 9) (σ 10) c i (σ 0 7).toNat ∧ σ = σ') := by
  refine fm_start (by decide) rfl (Nat.le_of_ble_eq_true rfl) [some (fm_r ω 0), some (fm_I c), some (fm_I i), none, none] rfl (fun Γ => ?_)
  refine fm_iconst dX9_tintOf_0 ?_
  refine fm_ist3 rfl dX9_tintOf_1 ?_
  refine fm_iconst dX9_tintOf_2 ?_
  refine fm_ist4 rfl dX9_tintOf_3 ?_
  exact l_X9_tintOf rc ri hf (σ 0 7).toNat 0 0 (by omega) (by have b7 := hf.2.2.2.2.2.2.2.2.2.1; omega) rfl
end
section
/-! LINING UP: the least cost, and who stands with whom -/
def lc (f g : Nat → Int) (n m : Nat) : Nat → Nat → Int
  | 0, v => 3 * v
  | u + 1, 0 => 3 * (u + 1)
  | u + 1, v + 1 => min (3 + min (lc f g n m (u + 1) v) (lc f g n m u (v + 1))) (pcost (f (n - (u + 1))) (g (m - (v + 1))) + lc f g n m u v)
termination_by u v => u + v
def lct (f g : Nat → Int) (n m i j : Nat) : Int := lc f g n m (n - i) (m - j)
theorem lct_n {f g : Nat → Int} {n m j : Nat} (h : j ≤ m) : lct f g n m n j = 3 * ((m : Int) - j) := by
  unfold lct
  rw [Nat.sub_self, lc]
  omega
theorem lct_m {f g : Nat → Int} {n m i : Nat} (h : i ≤ n) : lct f g n m i m = 3 * ((n : Int) - i) := by
  unfold lct
  rw [Nat.sub_self]
  cases hq : n - i with
  | zero => rw [lc]; omega
  | succ u => rw [lc]; omega
theorem lct_s {f g : Nat → Int} {n m i j : Nat} (hi : i < n) (hj : j < m) : lct f g n m i j = min (3 + min (lct f g n m i (j + 1)) (lct f g n m (i + 1) j)) (pcost (f i) (g j) + lct f g n m (i + 1) (j + 1)) := by
  unfold lct
  obtain ⟨u, hu⟩ : ∃ u, n - i = u + 1 := ⟨n - i - 1, by omega⟩
  obtain ⟨v, hv⟩ : ∃ v, m - j = v + 1 := ⟨m - j - 1, by omega⟩
  rw [hu, hv, lc, show n - (i + 1) = u by omega, show m - (j + 1) = v by omega, show n - (u + 1) = i by omega, show m - (v + 1) = j by omega]
theorem lc_b (f g : Nat → Int) (n m : Nat) : ∀ (t u v : Nat), u + v ≤ t → 0 ≤ lc f g n m u v ∧ lc f g n m u v ≤ 3 * ((u : Int) + v) := by
  intro t
  induction t with
  | zero =>
    intro u v h
    have hu : u = 0 := by omega
    subst hu
    rw [lc]
    omega
  | succ t ih =>
    intro u v h
    match u, v with
    | 0, v => rw [lc]; omega
    | u + 1, 0 => rw [lc]; omega
    | u + 1, v + 1 =>
      rw [lc]
      have h1 := ih (u + 1) v (by omega)
      have h2 := ih u (v + 1) (by omega)
      have h3 := ih u v (by omega)
      have h4 := pcost_b (f (n - (u + 1))) (g (m - (v + 1)))
      omega
theorem lct_b {f g : Nat → Int} {n m i j : Nat} (hn : n ≤ 40) (hm : m ≤ 40) : 0 ≤ lct f g n m i j ∧ lct f g n m i j ≤ 240 := by
  have := lc_b f g n m _ (n - i) (m - j) (Nat.le_refl _)
  unfold lct
  omega
def lup (p : Nat → Int) (i : Nat) (v : Int) : Nat → Int := fun k => if k = i then v else p k
/-- from row places i, j on: the partners laid into p -/
def lpa (f g : Nat → Int) (n m i j : Nat) (p : Nat → Int) : Nat → Int :=
  if h : i < n then
    (if h1 : j < m ∧ lct f g n m i j = lct f g n m (i + 1) (j + 1) + pcost (f i) (g j) then lpa f g n m (i + 1) (j + 1) (lup p i j)
    else if h2 : j < m ∧ lct f g n m i j = lct f g n m i (j + 1) + 3 then lpa f g n m i (j + 1) p
    else lpa f g n m (i + 1) j (lup p i (-4)))
  else p
termination_by (n - i) + (m - j)
decreasing_by all_goals omega
theorem lpa_end {f g : Nat → Int} {n m i j : Nat} {p : Nat → Int} (h : n ≤ i) : lpa f g n m i j p = p := by
  rw [lpa, dif_neg (by omega)]
theorem lpa_1 {f g : Nat → Int} {n m i j : Nat} {p : Nat → Int} (h : i < n) (h1 : j < m) (h2 : lct f g n m i j = lct f g n m (i + 1) (j + 1) + pcost (f i) (g j)) : lpa f g n m i j p = lpa f g n m (i + 1) (j + 1) (lup p i j) := by
  rw [lpa, dif_pos h, dif_pos ⟨h1, h2⟩]
theorem lpa_2 {f g : Nat → Int} {n m i j : Nat} {p : Nat → Int} (h : i < n) (h1 : j < m) (h2 : ¬ lct f g n m i j = lct f g n m (i + 1) (j + 1) + pcost (f i) (g j)) (h3 : lct f g n m i j = lct f g n m i (j + 1) + 3) : lpa f g n m i j p = lpa f g n m i (j + 1) p := by
  rw [lpa, dif_pos h, dif_neg (fun q => h2 q.2), dif_pos ⟨h1, h3⟩]
theorem lpa_3 {f g : Nat → Int} {n m i j : Nat} {p : Nat → Int} (h : i < n) (h2 : ¬ (j < m ∧ lct f g n m i j = lct f g n m (i + 1) (j + 1) + pcost (f i) (g j))) (h3 : ¬ (j < m ∧ lct f g n m i j = lct f g n m i (j + 1) + 3)) : lpa f g n m i j p = lpa f g n m (i + 1) j (lup p i (-4)) := by
  rw [lpa, dif_pos h, dif_neg h2, dif_neg h3]
theorem lpa_cong (f g : Nat → Int) (n m : Nat) : ∀ (t i j : Nat) (p q : Nat → Int), (n - i) + (m - j) ≤ t → (∀ k, k < i → p k = q k) → ∀ k, k < n → lpa f g n m i j p k = lpa f g n m i j q k := by
  intro t
  induction t with
  | zero =>
    intro i j p q ht h k hk
    rw [lpa_end (by omega), lpa_end (by omega)]
    exact h k (by omega)
  | succ t ih =>
    intro i j p q ht h k hk
    by_cases hi : i < n
    · have up : ∀ v : Int, ∀ k, k < i + 1 → lup p i v k = lup q i v k := fun v k hk => by
        unfold lup
        by_cases e : k = i
        · rw [if_pos e, if_pos e]
        · rw [if_neg e, if_neg e]; exact h k (by omega)
      by_cases h1 : j < m ∧ lct f g n m i j = lct f g n m (i + 1) (j + 1) + pcost (f i) (g j)
      · rw [lpa_1 hi h1.1 h1.2, lpa_1 hi h1.1 h1.2]
        exact ih _ _ _ _ (by omega) (up _) k hk
      · by_cases h2 : j < m ∧ lct f g n m i j = lct f g n m i (j + 1) + 3
        · rw [lpa_2 hi h2.1 (fun q => h1 ⟨h2.1, q⟩) h2.2, lpa_2 hi h2.1 (fun q => h1 ⟨h2.1, q⟩) h2.2]
          exact ih _ _ _ _ (by omega) h k hk
        · rw [lpa_3 hi h1 h2, lpa_3 hi h1 h2]
          exact ih _ _ _ _ (by omega) (up _) k hk
    · rw [lpa_end (by omega), lpa_end (by omega)]
      exact h k (by omega)
/-- the partner of k -/
def lpt (f g : Nat → Int) (n m k : Nat) : Int := lpa f g n m 0 0 (fun _ => 0) k
theorem lpt_of {f g : Nat → Int} {n m k : Nat} {p : Nat → Int} (hk : k < n) : lpa f g n m 0 0 p k = lpt f g n m k := lpa_cong f g n m _ 0 0 p _ (Nat.le_refl _) (fun k h => absurd h (Nat.not_lt_zero k)) k hk
/-- a partner is none, or a place of the second row -/
theorem lpa_b (f g : Nat → Int) (n m : Nat) : ∀ (t i j : Nat) (p : Nat → Int), (n - i) + (m - j) ≤ t → (∀ k, k < i → p k = -4 ∨ (0 ≤ p k ∧ p k < m)) → ∀ k, k < n → lpa f g n m i j p k = -4 ∨ (0 ≤ lpa f g n m i j p k ∧ lpa f g n m i j p k < m) := by
  intro t
  induction t with
  | zero =>
    intro i j p ht h k hk
    rw [lpa_end (by omega)]
    exact h k (by omega)
  | succ t ih =>
    intro i j p ht h k hk
    by_cases hi : i < n
    · by_cases h1 : j < m ∧ lct f g n m i j = lct f g n m (i + 1) (j + 1) + pcost (f i) (g j)
      · rw [lpa_1 hi h1.1 h1.2]
        refine ih _ _ _ (by omega) (fun k hk => ?_) k hk
        unfold lup
        split
        · omega
        · exact h k (by omega)
      · by_cases h2 : j < m ∧ lct f g n m i j = lct f g n m i (j + 1) + 3
        · rw [lpa_2 hi h2.1 (fun q => h1 ⟨h2.1, q⟩) h2.2]
          exact ih _ _ _ (by omega) h k hk
        · rw [lpa_3 hi h1 h2]
          refine ih _ _ _ (by omega) (fun k hk => ?_) k hk
          unfold lup
          split
          · omega
          · exact h k (by omega)
    · rw [lpa_end (by omega)]
      exact h k (by omega)
theorem lpt_b {f g : Nat → Int} {n m k : Nat} (hk : k < n) : lpt f g n m k = -4 ∨ (0 ≤ lpt f g n m k ∧ lpt f g n m k < m) := lpa_b f g n m _ 0 0 _ (Nat.le_refl _) (fun k h => absurd h (Nat.not_lt_zero k)) k hk
theorem lc_cong {f g f' g' : Nat → Int} {n m : Nat} (hf : ∀ k, k < n → f k = f' k) (hg : ∀ k, k < m → g k = g' k) : ∀ (t u v : Nat), u + v ≤ t → u ≤ n → v ≤ m → lc f g n m u v = lc f' g' n m u v := by
  intro t
  induction t with
  | zero =>
    intro u v h _ _
    have hu : u = 0 := by omega
    subst hu
    rw [lc, lc]
  | succ t ih =>
    intro u v h hu hv
    match u, v with
    | 0, v => rw [lc, lc]
    | u + 1, 0 => rw [lc, lc]
    | u + 1, v + 1 =>
      rw [lc, lc, ih (u + 1) v (by omega) hu (by omega), ih u (v + 1) (by omega) (by omega) hv, ih u v (by omega) (by omega) (by omega), hf _ (by omega), hg _ (by omega)]
theorem lct_cong {f g f' g' : Nat → Int} {n m i j : Nat} (hf : ∀ k, k < n → f k = f' k) (hg : ∀ k, k < m → g k = g' k) : lct f g n m i j = lct f' g' n m i j := lc_cong hf hg _ _ _ (Nat.le_refl _) (by omega) (by omega)
theorem lpa_fg {f g f' g' : Nat → Int} {n m : Nat} (hf : ∀ k, k < n → f k = f' k) (hg : ∀ k, k < m → g k = g' k) : ∀ (t i j : Nat) (p : Nat → Int), (n - i) + (m - j) ≤ t → lpa f g n m i j p = lpa f' g' n m i j p := by
  intro t
  induction t with
  | zero =>
    intro i j p ht
    rw [lpa_end (by omega), lpa_end (by omega)]
  | succ t ih =>
    intro i j p ht
    by_cases hi : i < n
    · have e1 : ∀ i j, lct f g n m i j = lct f' g' n m i j := fun i j => lct_cong hf hg
      by_cases h1 : j < m ∧ lct f g n m i j = lct f g n m (i + 1) (j + 1) + pcost (f i) (g j)
      · rw [lpa_1 hi h1.1 h1.2, lpa_1 hi h1.1 (by rw [← e1, ← e1, ← hf i hi, ← hg j h1.1]; exact h1.2)]
        exact ih _ _ _ (by omega)
      · have h1' : ¬ (j < m ∧ lct f' g' n m i j = lct f' g' n m (i + 1) (j + 1) + pcost (f' i) (g' j)) := fun q => h1 ⟨q.1, by rw [e1, e1, hf i hi, hg j q.1]; exact q.2⟩
        by_cases h2 : j < m ∧ lct f g n m i j = lct f g n m i (j + 1) + 3
        · rw [lpa_2 hi h2.1 (fun q => h1 ⟨h2.1, q⟩) h2.2, lpa_2 hi h2.1 (fun q => h1' ⟨h2.1, q⟩) (by rw [← e1, ← e1]; exact h2.2)]
          exact ih _ _ _ (by omega)
        · rw [lpa_3 hi h1 h2, lpa_3 hi h1' (fun q => h2 ⟨q.1, by rw [e1, e1]; exact q.2⟩)]
          exact ih _ _ _ (by omega)
    · rw [lpa_end (by omega), lpa_end (by omega)]
theorem lpt_cong {f g f' g' : Nat → Int} {n m k : Nat} (hf : ∀ k, k < n → f k = f' k) (hg : ∀ k, k < m → g k = g' k) : lpt f g n m k = lpt f' g' n m k := by
  unfold lpt
  rw [lpa_fg hf hg _ 0 0 _ (Nat.le_refl _)]
end
section
set_option maxRecDepth 20000 in
set_option maxHeartbeats 4000000 in
theorem k_X9_pairCost {ω : fm_O} {σ : fm_Mem} {x i y j : Int} (hf : fi σ) (hx : 0 ≤ x ∧ x ≤ 6) (hi : 0 ≤ i ∧ i < 40) (hy : 0 ≤ y ∧ y ≤ 6) (hj : 0 ≤ j ∧ j < 40) : fm_Met km ω yX9_pairCost cX9_pairCost 6 (some .int) (fm_rm 0) [fm_r ω 0, fm_I x, fm_I i, fm_I y, fm_I j] σ (fm_pI fun z σ' => z = pcost (σ 2 (40 * x + i).toNat) (σ 2 (40 * y + j).toNat) ∧ σ = σ') := by
  refine fm_start (by decide) rfl (Nat.le_of_ble_eq_true rfl) [some (fm_r ω 0), some (fm_I x), some (fm_I i), some (fm_I y), some (fm_I j), none] rfl (fun Γ => ?_)
  have m1 := hf.2.2.2.1 (40 * x + i).toNat
  have m2 := hf.2.2.2.1 (40 * y + j).toNat
  refine fm_ald0 dX9_pairCost_0 ?_
  refine gr_8_2 dX9_pairCost_1 fd_X9_13 ?_
  refine fm_bipush (by decide) dX9_pairCost_4 ?_
  refine fm_ild1 dX9_pairCost_6 ?_
  refine fm_imul dX9_pairCost_7 ?_
  refine fm_ild2 dX9_pairCost_8 ?_
  refine fm_iadd dX9_pairCost_9 ?_
  refine fm_iald dX9_pairCost_10 ma_2 (by omega) (by omega) ?_
  refine fm_ald0 dX9_pairCost_11 ?_
  refine gr_8_2 dX9_pairCost_12 fd_X9_13 ?_
  refine fm_bipush (by decide) dX9_pairCost_15 ?_
  refine fm_ild3 dX9_pairCost_17 ?_
  refine fm_imul dX9_pairCost_18 ?_
  refine fm_ild4 dX9_pairCost_19 ?_
  refine fm_iadd dX9_pairCost_21 ?_
  refine fm_iald dX9_pairCost_22 ma_2 (by omega) (by omega) ?_
  refine fm_isub dX9_pairCost_23 ?_
  refine fm_ist5 rfl dX9_pairCost_24 ?_
  refine fm_ild5 dX9_pairCost_26 ?_
  refine fm_if_ge (⟨by omega, by omega⟩) 37 dX9_pairCost_28 (by decide) (fun h28 => ?_) (fun h28 => ?_)
  · refine fm_ild5 dX9_pairCost_37 ?_
    refine fm_ist5 rfl dX9_pairCost_39 ?_
    refine fm_ild5 dX9_pairCost_41 ?_
    refine fm_iconst dX9_pairCost_43 ?_
    refine fm_icmp_le (⟨by omega, by omega⟩) (⟨by omega, by omega⟩) 51 dX9_pairCost_44 (by decide) (fun h44 => ?_) (fun h44 => ?_)
    · refine fm_ild5 dX9_pairCost_51 ?_
      refine fm_iretI dX9_pairCost_53 rfl ⟨?_, rfl⟩
      unfold pcost
      split <;> omega
    · refine fm_iconst dX9_pairCost_47 ?_
      refine fm_goto 53 dX9_pairCost_48 (by decide) ?_
      refine fm_iretI dX9_pairCost_53 rfl ⟨?_, rfl⟩
      unfold pcost
      split <;> omega
  · refine fm_ild5 dX9_pairCost_31 ?_
    refine fm_ineg dX9_pairCost_33 ?_
    refine fm_goto 39 dX9_pairCost_34 (by decide) ?_
    refine fm_ist5 rfl dX9_pairCost_39 ?_
    refine fm_ild5 dX9_pairCost_41 ?_
    refine fm_iconst dX9_pairCost_43 ?_
    refine fm_icmp_le (⟨by omega, by omega⟩) (⟨by omega, by omega⟩) 51 dX9_pairCost_44 (by decide) (fun h44 => ?_) (fun h44 => ?_)
    · refine fm_ild5 dX9_pairCost_51 ?_
      refine fm_iretI dX9_pairCost_53 rfl ⟨?_, rfl⟩
      unfold pcost
      split <;> omega
    · refine fm_iconst dX9_pairCost_47 ?_
      refine fm_goto 53 dX9_pairCost_48 (by decide) ?_
      refine fm_iretI dX9_pairCost_53 rfl ⟨?_, rfl⟩
      unfold pcost
      split <;> omega
def lf (σ : fm_Mem) (x : Int) : Nat → Int := fun k => σ 2 (40 * x.toNat + k)
def fr1 (σ τ : fm_Mem) : Prop := ∀ k j, k ≠ 16 → k ≠ 17 → τ k j = σ k j
def tbl (f g : Nat → Int) (N M : Nat) (τ : fm_Mem) (i j : Int) : Prop := ∀ a b : Nat, a ≤ N → b ≤ M → (i < a ∨ (i = a ∧ j < b)) → τ 16 (41 * a + b) = lct f g N M a b
theorem fr1.fi {σ τ : fm_Mem} (h : fi σ) (hr : fr1 σ τ) : fi τ := by
  obtain ⟨i1, i2, i3, i4, i5, i6, i7, i8, i9, i10, i11, i12, i13, i14, i15⟩ := h
  have z : ∀ k j, k ≠ 16 → k ≠ 17 → τ k j = σ k j := hr
  refine ⟨by rw [z _ _ (by omega) (by omega)]; exact i1, fun c hc => by rw [z _ _ (by omega) (by omega)]; exact i2 c hc, fun c hc hm => by rw [z _ _ (by omega) (by omega)] at hm ⊢; exact i3 c hc hm, fun q => by rw [z _ _ (by omega) (by omega)]; exact i4 q, fun q => by rw [z _ _ (by omega) (by omega)]; exact i5 q, fun q => by rw [z _ _ (by omega) (by omega)]; exact i6 q, fun q => by rw [z _ _ (by omega) (by omega)]; exact i7 q, fun q => by rw [z _ _ (by omega) (by omega)]; exact i8 q, by rw [z _ _ (by omega) (by omega)]; exact i9, by rw [z _ _ (by omega) (by omega)]; exact i10, fun q => by rw [z 7 _ (by omega) (by omega), z 8 _ (by omega) (by omega), z 9 _ (by omega) (by omega), z 10 _ (by omega) (by omega)]; exact i11 q, by rw [z _ _ (by omega) (by omega)]; exact i12, fun q => by rw [z 11 _ (by omega) (by omega), z 12 _ (by omega) (by omega), z 13 _ (by omega) (by omega)]; exact i13 q, by rw [z _ _ (by omega) (by omega)]; exact i14, fun q => by rw [z 14 _ (by omega) (by omega), z 15 _ (by omega) (by omega)]; exact i15 q⟩
theorem fr1.up {a b : fm_Mem} {k j : Nat} {v : Int} (h : fr1 a b) (hk : k = 16 ∨ k = 17) : fr1 a (fm_up b k j v) := fun k2 j2 h1 h2 => by
  rw [fm_up_ne (by omega)]
  exact h k2 j2 h1 h2
theorem fr1.sam {a b : fm_Mem} (h : fr1 a b) : sam a b := fun k j hk => h k j (by omega) (by omega)
theorem fr1.trans {a b c : fm_Mem} (h : fr1 a b) (h2 : fr1 b c) : fr1 a c := fun k j h3 h4 => (h2 k j h3 h4).trans (h k j h3 h4)
theorem lup_up (τ : fm_Mem) (q i : Nat) (v : Int) : fm_up τ q i v q = lup (τ q) i v := by funext k; simp [fm_up, lup]
theorem fr1.rfl {a : fm_Mem} : fr1 a a := fun _ _ _ _ => Eq.refl _
set_option maxRecDepth 20000 in
set_option maxHeartbeats 4000000 in
theorem l_lines_in {ω : fm_O} {σ : fm_Mem} {Γ : fm_G} {P : Option Value → fm_Mem → Prop} {x y : Int} (hf : fi σ) (hx : 0 ≤ x ∧ x ≤ 6) (hy : 0 ≤ y ∧ y ≤ 6) (N M : Nat) (hN : N ≤ 40) (hM : M ≤ 40) {i : Int} (hi : 0 ≤ i ∧ i ≤ N) (hK : ∀ (τ : fm_Mem) (j o7 : Option Value), fr1 σ τ → tbl (lf σ x) (lf σ y) N M τ i (-1) → fm_W km ω Γ (cX9_lines, RX9, fm_rm 1, 8, none) P τ 226 [some (fm_r ω 0), some (fm_I x), some (fm_I y), some (fm_I (N : Int)), some (fm_I (M : Int)), some (fm_I i), j, o7] []) : ∀ (d : Nat) (j : Int) (τ : fm_Mem) (o7 : Option Value), j + 1 = d → j ≤ M → fr1 σ τ → tbl (lf σ x) (lf σ y) N M τ i j → fm_W km ω Γ (cX9_lines, RX9, fm_rm 1, 8, none) P τ 27 [some (fm_r ω 0), some (fm_I x), some (fm_I y), some (fm_I (N : Int)), some (fm_I (M : Int)), some (fm_I i), some (fm_I j), o7] [] := by
  intro d
  induction d with
  | zero =>
    intro j τ o7 hd hj hr ht
    refine fm_ild6 dX9_lines_27 ?_
    refine fm_if_lt (⟨by omega, by omega⟩) 226 dX9_lines_29 (by decide) (fun h29 => ?_) (fun h29 => ?_)
    · exact hK τ _ o7 hr (by rw [show (-1 : Int) = j by omega]; exact ht)
    · exfalso; omega
  | succ d ih =>
    intro j τ o7 hd hj hr ht
    have hft := hr.fi hf
    obtain ⟨V, hV⟩ : ∃ V, V = lct (lf σ x) (lf σ y) N M i.toNat j.toNat := ⟨_, rfl⟩
    obtain ⟨Lv, hLv⟩ : ∃ V, V = lct (lf σ x) (lf σ y) N M i.toNat (j.toNat + 1) := ⟨_, rfl⟩
    obtain ⟨Uv, hUv⟩ : ∃ V, V = lct (lf σ x) (lf σ y) N M (i.toNat + 1) j.toNat := ⟨_, rfl⟩
    obtain ⟨Dv, hDv⟩ : ∃ V, V = lct (lf σ x) (lf σ y) N M (i.toNat + 1) (j.toNat + 1) := ⟨_, rfl⟩
    obtain ⟨Pv, hPv⟩ : ∃ V, V = pcost ((lf σ x) i.toNat) ((lf σ y) j.toNat) := ⟨_, rfl⟩
    have bV : 0 ≤ V ∧ V ≤ 240 := by rw [hV]; exact lct_b hN hM
    have bL : 0 ≤ Lv ∧ Lv ≤ 240 := by rw [hLv]; exact lct_b hN hM
    have bU : 0 ≤ Uv ∧ Uv ≤ 240 := by rw [hUv]; exact lct_b hN hM
    have bD : 0 ≤ Dv ∧ Dv ≤ 240 := by rw [hDv]; exact lct_b hN hM
    have bP : 0 ≤ Pv ∧ Pv ≤ 5 := by rw [hPv]; exact pcost_b _ _
    have c1 : i < N → j < M → V = min (3 + min Lv Uv) (Pv + Dv) := fun a b => by rw [hV, hLv, hUv, hDv, hPv, lct_s (by omega) (by omega)]
    have c2 : ¬ i < N → V = 3 * (M - j) := fun a => by rw [hV, show i.toNat = N by omega, lct_n (by omega)]; omega
    have c3 : ¬ j < M → V = 3 * (N - i) := fun a => by rw [hV, show j.toNat = M by omega, lct_m (by omega)]; omega
    have c4 : ¬ i < N → j < M → Lv = 3 * (M - j - 1) := fun a b => by rw [hLv, show i.toNat = N by omega, lct_n (by omega)]; omega
    have c5 : i < N → ¬ j < M → Uv = 3 * (N - i - 1) := fun a b => by rw [hUv, show j.toNat = M by omega, lct_m (by omega)]; omega
    have rL : j < M → τ 16 (41 * i + j + 1).toNat = Lv := fun a => by rw [hLv, ← ht i.toNat (j.toNat + 1) (by omega) (by omega) (by omega)]; congr 1 <;> omega
    have rU : i < N → τ 16 (41 * i + 41 + j).toNat = Uv := fun a => by rw [hUv, ← ht (i.toNat + 1) j.toNat (by omega) (by omega) (by omega)]; congr 1 <;> omega
    have rD : i < N → j < M → τ 16 (41 * i + 41 + j + 1).toNat = Dv := fun a b => by rw [hDv, ← ht (i.toNat + 1) (j.toNat + 1) (by omega) (by omega) (by omega)]; congr 1 <;> omega
    have rP : pcost (τ 2 (40 * x + i).toNat) (τ 2 (40 * y + j).toNat) = Pv := by
      rw [hPv, hr 2 _ (by omega) (by omega), hr 2 _ (by omega) (by omega)]
      unfold lf
      rw [show 40 * x.toNat + i.toNat = (40 * x + i).toNat by omega, show 40 * y.toNat + j.toNat = (40 * y + j).toNat by omega]
    have J205 : ∀ b9 : Int, b9 = V → fm_W km ω Γ (cX9_lines, RX9, fm_rm 1, 8, none) P τ 205 [some (fm_r ω 0), some (fm_I x), some (fm_I y), some (fm_I (N : Int)), some (fm_I (M : Int)), some (fm_I i), some (fm_I j), some (fm_I b9)] [] := by
      intro b9 hb9
      refine fm_ald0 dX9_lines_205 ?_
      refine gr_8_19 dX9_lines_206 fd_X9_55 ?_
      refine fm_bipush (by decide) dX9_lines_209 ?_
      refine fm_ild5 dX9_lines_211 ?_
      refine fm_imul dX9_lines_213 ?_
      refine fm_ild6 dX9_lines_214 ?_
      refine fm_iadd dX9_lines_216 ?_
      refine fm_ild7 dX9_lines_217 ?_
      refine fm_iast dX9_lines_219 ma_16 (by omega) (by omega) ?_
      refine fm_inc6 rfl dX9_lines_220 ?_
      refine fm_goto 27 dX9_lines_223 (by decide) ?_
      refine ih (j + -1) _ _ (by omega) (by omega) (hr.up (Or.inl rfl)) (fun a b ha hb hab => ?_)
      by_cases e : 41 * a + b = (41 * i + j).toNat
      · rw [e, fm_up_eq, hb9, hV, show i.toNat = a by omega, show j.toNat = b by omega]
      · rw [fm_up_nj e]
        exact ht a b ha hb (by omega)
    have J151 : ∀ b9 : Int, (0 ≤ b9 ∧ b9 ≤ 9999) → (i < N → V = min b9 (Uv + 3)) → (¬ i < N → V = b9) → fm_W km ω Γ (cX9_lines, RX9, fm_rm 1, 8, none) P τ 151 [some (fm_r ω 0), some (fm_I x), some (fm_I y), some (fm_I (N : Int)), some (fm_I (M : Int)), some (fm_I i), some (fm_I j), some (fm_I b9)] [] := by
      intro b9 hb0 hb1 hb2
      refine fm_ild5 dX9_lines_151 ?_
      refine fm_ild3 dX9_lines_153 ?_
      refine fm_icmp_ge (⟨by omega, by omega⟩) (⟨by omega, by omega⟩) 201 dX9_lines_154 (by decide) (fun h154 => ?_) (fun h154 => ?_)
      · refine fm_ild7 dX9_lines_201 ?_
        refine fm_ist7 rfl dX9_lines_203 ?_
        exact J205 _ (by omega)
      · refine fm_ald0 dX9_lines_157 ?_
        refine gr_8_19 dX9_lines_158 fd_X9_55 ?_
        refine fm_bipush (by decide) dX9_lines_161 ?_
        refine fm_ild5 dX9_lines_163 ?_
        refine fm_imul dX9_lines_165 ?_
        refine fm_bipush (by decide) dX9_lines_166 ?_
        refine fm_iadd dX9_lines_168 ?_
        refine fm_ild6 dX9_lines_169 ?_
        refine fm_iadd dX9_lines_171 ?_
        refine fm_iald dX9_lines_172 ma_16 (by omega) (by omega) ?_
        rw [rU (by omega)]
        refine fm_iconst dX9_lines_173 ?_
        refine fm_iadd dX9_lines_174 ?_
        refine fm_ild7 dX9_lines_175 ?_
        refine fm_icmp_ge (⟨by omega, by omega⟩) (⟨by omega, by omega⟩) 201 dX9_lines_177 (by decide) (fun h177 => ?_) (fun h177 => ?_)
        · refine fm_ild7 dX9_lines_201 ?_
          refine fm_ist7 rfl dX9_lines_203 ?_
          exact J205 _ (by omega)
        · refine fm_ald0 dX9_lines_180 ?_
          refine gr_8_19 dX9_lines_181 fd_X9_55 ?_
          refine fm_bipush (by decide) dX9_lines_184 ?_
          refine fm_ild5 dX9_lines_186 ?_
          refine fm_imul dX9_lines_188 ?_
          refine fm_bipush (by decide) dX9_lines_189 ?_
          refine fm_iadd dX9_lines_191 ?_
          refine fm_ild6 dX9_lines_192 ?_
          refine fm_iadd dX9_lines_194 ?_
          refine fm_iald dX9_lines_195 ma_16 (by omega) (by omega) ?_
          try rw [rU (by omega)]
          refine fm_iconst dX9_lines_196 ?_
          refine fm_iadd dX9_lines_197 ?_
          refine fm_goto 203 dX9_lines_198 (by decide) ?_
          refine fm_ist7 rfl dX9_lines_203 ?_
          exact J205 _ (by omega)
    have J98 : ∀ b9 : Int, (0 ≤ b9 ∧ b9 ≤ 9999) → (j < M → i < N → V = min (min b9 (Lv + 3)) (Uv + 3)) → (j < M → ¬ i < N → V = min b9 (Lv + 3)) → (¬ j < M → i < N → V = min b9 (Uv + 3)) → (¬ j < M → ¬ i < N → V = b9) → fm_W km ω Γ (cX9_lines, RX9, fm_rm 1, 8, none) P τ 98 [some (fm_r ω 0), some (fm_I x), some (fm_I y), some (fm_I (N : Int)), some (fm_I (M : Int)), some (fm_I i), some (fm_I j), some (fm_I b9)] [] := by
      intro b9 hb0 hb1 hb2 hb3 hb4
      refine fm_ild6 dX9_lines_98 ?_
      refine fm_ild4 dX9_lines_100 ?_
      refine fm_icmp_ge (⟨by omega, by omega⟩) (⟨by omega, by omega⟩) 147 dX9_lines_102 (by decide) (fun h102 => ?_) (fun h102 => ?_)
      · refine fm_ild7 dX9_lines_147 ?_
        refine fm_ist7 rfl dX9_lines_149 ?_
        exact J151 _ (by omega) (by omega) (by omega)
      · refine fm_ald0 dX9_lines_105 ?_
        refine gr_8_19 dX9_lines_106 fd_X9_55 ?_
        refine fm_bipush (by decide) dX9_lines_109 ?_
        refine fm_ild5 dX9_lines_111 ?_
        refine fm_imul dX9_lines_113 ?_
        refine fm_ild6 dX9_lines_114 ?_
        refine fm_iadd dX9_lines_116 ?_
        refine fm_iconst dX9_lines_117 ?_
        refine fm_iadd dX9_lines_118 ?_
        refine fm_iald dX9_lines_119 ma_16 (by omega) (by omega) ?_
        rw [rL (by omega)]
        refine fm_iconst dX9_lines_120 ?_
        refine fm_iadd dX9_lines_121 ?_
        refine fm_ild7 dX9_lines_122 ?_
        refine fm_icmp_ge (⟨by omega, by omega⟩) (⟨by omega, by omega⟩) 147 dX9_lines_124 (by decide) (fun h124 => ?_) (fun h124 => ?_)
        · refine fm_ild7 dX9_lines_147 ?_
          refine fm_ist7 rfl dX9_lines_149 ?_
          exact J151 _ (by omega) (by omega) (by omega)
        · refine fm_ald0 dX9_lines_127 ?_
          refine gr_8_19 dX9_lines_128 fd_X9_55 ?_
          refine fm_bipush (by decide) dX9_lines_131 ?_
          refine fm_ild5 dX9_lines_133 ?_
          refine fm_imul dX9_lines_135 ?_
          refine fm_ild6 dX9_lines_136 ?_
          refine fm_iadd dX9_lines_138 ?_
          refine fm_iconst dX9_lines_139 ?_
          refine fm_iadd dX9_lines_140 ?_
          refine fm_iald dX9_lines_141 ma_16 (by omega) (by omega) ?_
          try rw [rL (by omega)]
          refine fm_iconst dX9_lines_142 ?_
          refine fm_iadd dX9_lines_143 ?_
          refine fm_goto 149 dX9_lines_144 (by decide) ?_
          refine fm_ist7 rfl dX9_lines_149 ?_
          exact J151 _ (by omega) (by omega) (by omega)
    have J54 : ∀ b9 : Int, (i = N ∧ j = M → b9 = 0) → (¬ (i = N ∧ j = M) → b9 = 9999) → fm_W km ω Γ (cX9_lines, RX9, fm_rm 1, 8, none) P τ 54 [some (fm_r ω 0), some (fm_I x), some (fm_I y), some (fm_I (N : Int)), some (fm_I (M : Int)), some (fm_I i), some (fm_I j), some (fm_I b9)] [] := by
      intro b9 hb0 hb1
      refine fm_ild5 dX9_lines_54 ?_
      refine fm_ild3 dX9_lines_56 ?_
      refine fm_icmp_ge (⟨by omega, by omega⟩) (⟨by omega, by omega⟩) 98 dX9_lines_57 (by decide) (fun h57 => ?_) (fun h57 => ?_)
      · exact J98 _ (by omega) (by omega) (by omega) (by omega) (by omega)
      · refine fm_ild6 dX9_lines_60 ?_
        refine fm_ild4 dX9_lines_62 ?_
        refine fm_icmp_ge (⟨by omega, by omega⟩) (⟨by omega, by omega⟩) 98 dX9_lines_64 (by decide) (fun h64 => ?_) (fun h64 => ?_)
        · exact J98 _ (by omega) (by omega) (by omega) (by omega) (by omega)
        · refine fm_ald0 dX9_lines_67 ?_
          refine gr_8_19 dX9_lines_68 fd_X9_55 ?_
          refine fm_bipush (by decide) dX9_lines_71 ?_
          refine fm_ild5 dX9_lines_73 ?_
          refine fm_imul dX9_lines_75 ?_
          refine fm_bipush (by decide) dX9_lines_76 ?_
          refine fm_iadd dX9_lines_78 ?_
          refine fm_ild6 dX9_lines_79 ?_
          refine fm_iadd dX9_lines_81 ?_
          refine fm_iconst dX9_lines_82 ?_
          refine fm_iadd dX9_lines_83 ?_
          refine fm_iald dX9_lines_84 ma_16 (by omega) (by omega) ?_
          rw [rD (by omega) (by omega)]
          refine fm_ald0 dX9_lines_85 ?_
          refine fm_ild1 dX9_lines_86 ?_
          refine fm_ild5 dX9_lines_87 ?_
          refine fm_ild2 dX9_lines_89 ?_
          refine fm_ild6 dX9_lines_90 ?_
          refine fm_cvI dX9_lines_92 cl_X9_102 (k_X9_pairCost hft (by omega) (by omega) (by omega) (by omega)) mb_0 rfl rfl (by decide) rfl rfl (Nat.le_of_ble_eq_true rfl) (fun z92 s92 q92 => ?_)
          obtain ⟨rfl, rfl⟩ := q92
          rw [rP]
          refine fm_iadd dX9_lines_95 ?_
          refine fm_ist7 rfl dX9_lines_96 ?_
          exact J98 _ (by omega) (by omega) (by omega) (by omega) (by omega)
    refine fm_ild6 dX9_lines_27 ?_
    refine fm_if_lt (⟨by omega, by omega⟩) 226 dX9_lines_29 (by decide) (fun h29 => ?_) (fun h29 => ?_)
    · exfalso; omega
    · refine fm_ild5 dX9_lines_32 ?_
      refine fm_ild3 dX9_lines_34 ?_
      refine fm_icmp_ne (⟨by omega, by omega⟩) (⟨by omega, by omega⟩) 49 dX9_lines_35 (by decide) (fun h35 => ?_) (fun h35 => ?_)
      · refine fm_sipush (by decide) dX9_lines_49 ?_
        refine fm_ist7 rfl dX9_lines_52 ?_
        exact J54 _ (by omega) (by omega)
      · refine fm_ild6 dX9_lines_38 ?_
        refine fm_ild4 dX9_lines_40 ?_
        refine fm_icmp_ne (⟨by omega, by omega⟩) (⟨by omega, by omega⟩) 49 dX9_lines_42 (by decide) (fun h42 => ?_) (fun h42 => ?_)
        · refine fm_sipush (by decide) dX9_lines_49 ?_
          refine fm_ist7 rfl dX9_lines_52 ?_
          exact J54 _ (by omega) (by omega)
        · refine fm_iconst dX9_lines_45 ?_
          refine fm_goto 52 dX9_lines_46 (by decide) ?_
          refine fm_ist7 rfl dX9_lines_52 ?_
          exact J54 _ (by omega) (by omega)
set_option maxRecDepth 20000 in
set_option maxHeartbeats 4000000 in
theorem l_lines_out {ω : fm_O} {σ : fm_Mem} {Γ : fm_G} {P : Option Value → fm_Mem → Prop} {x y : Int} (hf : fi σ) (hx : 0 ≤ x ∧ x ≤ 6) (hy : 0 ≤ y ∧ y ≤ 6) (N M : Nat) (hN : N ≤ 40) (hM : M ≤ 40) (hK : ∀ (τ : fm_Mem) (o5 o6 o7 : Option Value), fr1 σ τ → tbl (lf σ x) (lf σ y) N M τ (-1) M → fm_W km ω Γ (cX9_lines, RX9, fm_rm 1, 8, none) P τ 232 [some (fm_r ω 0), some (fm_I x), some (fm_I y), some (fm_I (N : Int)), some (fm_I (M : Int)), o5, o6, o7] []) : ∀ (d : Nat) (i : Int) (τ : fm_Mem) (o6 o7 : Option Value), i + 1 = d → i ≤ N → fr1 σ τ → tbl (lf σ x) (lf σ y) N M τ i M → fm_W km ω Γ (cX9_lines, RX9, fm_rm 1, 8, none) P τ 18 [some (fm_r ω 0), some (fm_I x), some (fm_I y), some (fm_I (N : Int)), some (fm_I (M : Int)), some (fm_I i), o6, o7] [] := by
  intro d
  induction d with
  | zero =>
    intro i τ o6 o7 hd hi hr ht
    refine fm_ild5 dX9_lines_18 ?_
    refine fm_if_lt (⟨by omega, by omega⟩) 232 dX9_lines_20 (by decide) (fun h20 => ?_) (fun h20 => ?_)
    · exact hK τ _ _ _ hr (by rw [show (-1 : Int) = i by omega]; exact ht)
    · exfalso; omega
  | succ d ih =>
    intro i τ o6 o7 hd hi hr ht
    have hK2 : ∀ (τ : fm_Mem) (j o7 : Option Value), fr1 σ τ → tbl (lf σ x) (lf σ y) N M τ i (-1) → fm_W km ω Γ (cX9_lines, RX9, fm_rm 1, 8, none) P τ 226 [some (fm_r ω 0), some (fm_I x), some (fm_I y), some (fm_I (N : Int)), some (fm_I (M : Int)), some (fm_I i), j, o7] [] := by
      intro τ j o7 hr ht
      refine fm_inc5 rfl dX9_lines_226 ?_
      refine fm_goto 18 dX9_lines_229 (by decide) ?_
      exact ih (i + -1) τ _ _ (by omega) (by omega) hr (fun a b ha hb hab => ht a b ha hb (by omega))
    refine fm_ild5 dX9_lines_18 ?_
    refine fm_if_lt (⟨by omega, by omega⟩) 232 dX9_lines_20 (by decide) (fun h20 => ?_) (fun h20 => ?_)
    · exfalso; omega
    · refine fm_ild4 dX9_lines_23 ?_
      refine fm_ist6 rfl dX9_lines_25 ?_
      exact l_lines_in hf hx hy N M hN hM (by omega) hK2 (M + 1) (M : Int) τ _ (by omega) (by omega) hr (fun a b ha hb hab => ht a b ha hb hab)
set_option maxRecDepth 20000 in
set_option maxHeartbeats 4000000 in
theorem l_lines_tr {ω : fm_O} {σ τ0 : fm_Mem} {Γ : fm_G} {x y : Int} (hf : fi σ) (hx : 0 ≤ x ∧ x ≤ 6) (hy : 0 ≤ y ∧ y ≤ 6) (N M : Nat) (hN : N ≤ 40) (hM : M ≤ 40) (hr0 : fr1 σ τ0) (ht : ∀ a b : Nat, a ≤ N → b ≤ M → τ0 16 (41 * a + b) = lct (lf σ x) (lf σ y) N M a b) : ∀ (d i j : Nat) (τ : fm_Mem) (o7 : Option Value), (N - i) + (M - j) ≤ d → i ≤ N → j ≤ M → (∀ k q, k ≠ 17 → τ k q = τ0 k q) → (∀ k, k < N → lpa (lf σ x) (lf σ y) N M i j (τ 17) k = lpt (lf σ x) (lf σ y) N M k) → fm_W km ω Γ (cX9_lines, RX9, fm_rm 1, 8, none) (fm_pN fun σ' => fr1 σ σ' ∧ (∀ a b : Nat, a ≤ N → b ≤ M → σ' 16 (41 * a + b) = lct (lf σ x) (lf σ y) N M a b) ∧ ∀ k, k < N → σ' 17 k = lpt (lf σ x) (lf σ y) N M k) τ 238 [some (fm_r ω 0), some (fm_I x), some (fm_I y), some (fm_I (N : Int)), some (fm_I (M : Int)), some (fm_I (j : Int)), some (fm_I (i : Int)), o7] [] := by
  intro d
  induction d with
  | zero =>
    intro i j τ o7 hd hi hj hr hp
    refine fm_ild6 dX9_lines_238 ?_
    refine fm_ild3 dX9_lines_240 ?_
    refine fm_icmp_ge (⟨by omega, by omega⟩) (⟨by omega, by omega⟩) 368 dX9_lines_241 (by decide) (fun h241 => ?_) (fun h241 => ?_)
    · refine fm_vretN dX9_lines_368 rfl ⟨fun k q h1 h2 => (hr k q h2).trans (hr0 k q h1 h2), fun a b ha hb => by rw [hr _ _ (by omega)]; exact ht a b ha hb, fun k hk => ?_⟩
      rw [← hp k hk, lpa_end (by omega)]
    · exfalso; omega
  | succ d ih =>
    intro i j τ o7 hd hi hj hr hp
    have hft : fi τ := fr1.fi hf (fun k q h1 h2 => (hr k q h2).trans (hr0 k q h1 h2))
    have r0 : τ 16 (41 * (i : Int) + j).toNat = lct (lf σ x) (lf σ y) N M i j := by rw [hr _ _ (by omega), ← ht i j (by omega) (by omega)]; congr 1 <;> omega
    have rD : i < N → j < M → τ 16 (41 * (i : Int) + 41 + j + 1).toNat = lct (lf σ x) (lf σ y) N M (i + 1) (j + 1) := fun a b => by rw [hr _ _ (by omega), ← ht (i + 1) (j + 1) (by omega) (by omega)]; congr 1 <;> omega
    have rL : j < M → τ 16 (41 * (i : Int) + j + 1).toNat = lct (lf σ x) (lf σ y) N M i (j + 1) := fun b => by rw [hr _ _ (by omega), ← ht i (j + 1) (by omega) (by omega)]; congr 1 <;> omega
    have rP : pcost (τ 2 (40 * x + (i : Int)).toNat) (τ 2 (40 * y + (j : Int)).toNat) = pcost ((lf σ x) i) ((lf σ y) j) := by
      rw [hr 2 _ (by omega), hr 2 _ (by omega), hr0 2 _ (by omega) (by omega), hr0 2 _ (by omega) (by omega)]
      unfold lf
      rw [show 40 * x.toNat + i = (40 * x + (i : Int)).toNat by omega, show 40 * y.toNat + j = (40 * y + (j : Int)).toNat by omega]
    have b0 := lct_b (f := (lf σ x)) (g := (lf σ y)) (i := i) (j := j) hN hM
    have bD := lct_b (f := (lf σ x)) (g := (lf σ y)) (i := i + 1) (j := j + 1) hN hM
    have bL := lct_b (f := (lf σ x)) (g := (lf σ y)) (i := i) (j := j + 1) hN hM
    have bP := pcost_b ((lf σ x) i) ((lf σ y) j)
    refine fm_ild6 dX9_lines_238 ?_
    refine fm_ild3 dX9_lines_240 ?_
    refine fm_icmp_ge (⟨by omega, by omega⟩) (⟨by omega, by omega⟩) 368 dX9_lines_241 (by decide) (fun h241 => ?_) (fun h241 => ?_)
    · refine fm_vretN dX9_lines_368 rfl ⟨fun k q h1 h2 => (hr k q h2).trans (hr0 k q h1 h2), fun a b ha hb => by rw [hr _ _ (by omega)]; exact ht a b ha hb, fun k hk => ?_⟩
      rw [← hp k hk, lpa_end (by omega)]
    · refine fm_ald0 dX9_lines_244 ?_
      refine gr_8_19 dX9_lines_245 fd_X9_55 ?_
      refine fm_bipush (by decide) dX9_lines_248 ?_
      refine fm_ild6 dX9_lines_250 ?_
      refine fm_imul dX9_lines_252 ?_
      refine fm_ild5 dX9_lines_253 ?_
      refine fm_iadd dX9_lines_255 ?_
      refine fm_iald dX9_lines_256 ma_16 (by omega) (by omega) ?_
      rw [r0]
      refine fm_ist7 rfl dX9_lines_257 ?_
      refine fm_ild5 dX9_lines_259 ?_
      refine fm_ild4 dX9_lines_261 ?_
      refine fm_icmp_ge (⟨by omega, by omega⟩) (⟨by omega, by omega⟩) 318 dX9_lines_263 (by decide) (fun h263 => ?_) (fun h263 => ?_)
      · refine fm_ild5 dX9_lines_318 ?_
        refine fm_ild4 dX9_lines_320 ?_
        refine fm_icmp_ge (⟨by omega, by omega⟩) (⟨by omega, by omega⟩) 353 dX9_lines_322 (by decide) (fun h322 => ?_) (fun h322 => ?_)
        · refine fm_ald0 dX9_lines_353 ?_
          refine gr_8_20 dX9_lines_354 fd_X9_58 ?_
          refine fm_ild6 dX9_lines_357 ?_
          refine fm_bipush (by decide) dX9_lines_359 ?_
          refine fm_iast dX9_lines_361 ma_17 (by omega) (by omega) ?_
          refine fm_inc6 rfl dX9_lines_362 ?_
          refine fm_goto 238 dX9_lines_365 (by decide) ?_
          first
            | (exfalso; omega)
            | (rw [show (i : Int) + 1 = ((i + 1 : Nat) : Int) by omega, show (j : Int) + 1 = ((j + 1 : Nat) : Int) by omega]
               refine ih (i + 1) (j + 1) _ _ (by omega) (by omega) (by omega) (fun k q hk => by rw [fm_up_ne hk]; exact hr k q hk) (fun k hk => ?_)
               have e := hp k hk
               rw [lpa_1 (by omega) (by omega) (by omega)] at e
               rw [Int.toNat_natCast, lup_up]
               exact e)
            | (rw [show (j : Int) + 1 = ((j + 1 : Nat) : Int) by omega]
               refine ih i (j + 1) _ _ (by omega) (by omega) (by omega) hr (fun k hk => ?_)
               have e := hp k hk
               rw [lpa_2 (by omega) (by omega) (by omega) (by omega)] at e
               exact e)
            | (rw [show (i : Int) + 1 = ((i + 1 : Nat) : Int) by omega]
               refine ih (i + 1) j _ _ (by omega) (by omega) (by omega) (fun k q hk => by rw [fm_up_ne hk]; exact hr k q hk) (fun k hk => ?_)
               have e := hp k hk
               rw [lpa_3 (by omega) (by omega) (by omega)] at e
               rw [Int.toNat_natCast, lup_up]
               exact e)
        · refine fm_ild7 dX9_lines_325 ?_
          refine fm_ald0 dX9_lines_327 ?_
          refine gr_8_19 dX9_lines_328 fd_X9_55 ?_
          refine fm_bipush (by decide) dX9_lines_331 ?_
          refine fm_ild6 dX9_lines_333 ?_
          refine fm_imul dX9_lines_335 ?_
          refine fm_ild5 dX9_lines_336 ?_
          refine fm_iadd dX9_lines_338 ?_
          refine fm_iconst dX9_lines_339 ?_
          refine fm_iadd dX9_lines_340 ?_
          refine fm_iald dX9_lines_341 ma_16 (by omega) (by omega) ?_
          rw [rL (by omega)]
          refine fm_iconst dX9_lines_342 ?_
          refine fm_iadd dX9_lines_343 ?_
          refine fm_icmp_ne (⟨by omega, by omega⟩) (⟨by omega, by omega⟩) 353 dX9_lines_344 (by decide) (fun h344 => ?_) (fun h344 => ?_)
          · refine fm_ald0 dX9_lines_353 ?_
            refine gr_8_20 dX9_lines_354 fd_X9_58 ?_
            refine fm_ild6 dX9_lines_357 ?_
            refine fm_bipush (by decide) dX9_lines_359 ?_
            refine fm_iast dX9_lines_361 ma_17 (by omega) (by omega) ?_
            refine fm_inc6 rfl dX9_lines_362 ?_
            refine fm_goto 238 dX9_lines_365 (by decide) ?_
            first
              | (exfalso; omega)
              | (rw [show (i : Int) + 1 = ((i + 1 : Nat) : Int) by omega, show (j : Int) + 1 = ((j + 1 : Nat) : Int) by omega]
                 refine ih (i + 1) (j + 1) _ _ (by omega) (by omega) (by omega) (fun k q hk => by rw [fm_up_ne hk]; exact hr k q hk) (fun k hk => ?_)
                 have e := hp k hk
                 rw [lpa_1 (by omega) (by omega) (by omega)] at e
                 rw [Int.toNat_natCast, lup_up]
                 exact e)
              | (rw [show (j : Int) + 1 = ((j + 1 : Nat) : Int) by omega]
                 refine ih i (j + 1) _ _ (by omega) (by omega) (by omega) hr (fun k hk => ?_)
                 have e := hp k hk
                 rw [lpa_2 (by omega) (by omega) (by omega) (by omega)] at e
                 exact e)
              | (rw [show (i : Int) + 1 = ((i + 1 : Nat) : Int) by omega]
                 refine ih (i + 1) j _ _ (by omega) (by omega) (by omega) (fun k q hk => by rw [fm_up_ne hk]; exact hr k q hk) (fun k hk => ?_)
                 have e := hp k hk
                 rw [lpa_3 (by omega) (by omega) (by omega)] at e
                 rw [Int.toNat_natCast, lup_up]
                 exact e)
          · refine fm_inc5 rfl dX9_lines_347 ?_
            refine fm_goto 365 dX9_lines_350 (by decide) ?_
            refine fm_goto 238 dX9_lines_365 (by decide) ?_
            first
              | (exfalso; omega)
              | (rw [show (i : Int) + 1 = ((i + 1 : Nat) : Int) by omega, show (j : Int) + 1 = ((j + 1 : Nat) : Int) by omega]
                 refine ih (i + 1) (j + 1) _ _ (by omega) (by omega) (by omega) (fun k q hk => by rw [fm_up_ne hk]; exact hr k q hk) (fun k hk => ?_)
                 have e := hp k hk
                 rw [lpa_1 (by omega) (by omega) (by omega)] at e
                 rw [Int.toNat_natCast, lup_up]
                 exact e)
              | (rw [show (j : Int) + 1 = ((j + 1 : Nat) : Int) by omega]
                 refine ih i (j + 1) _ _ (by omega) (by omega) (by omega) hr (fun k hk => ?_)
                 have e := hp k hk
                 rw [lpa_2 (by omega) (by omega) (by omega) (by omega)] at e
                 exact e)
              | (rw [show (i : Int) + 1 = ((i + 1 : Nat) : Int) by omega]
                 refine ih (i + 1) j _ _ (by omega) (by omega) (by omega) (fun k q hk => by rw [fm_up_ne hk]; exact hr k q hk) (fun k hk => ?_)
                 have e := hp k hk
                 rw [lpa_3 (by omega) (by omega) (by omega)] at e
                 rw [Int.toNat_natCast, lup_up]
                 exact e)
      · refine fm_ild7 dX9_lines_266 ?_
        refine fm_ald0 dX9_lines_268 ?_
        refine gr_8_19 dX9_lines_269 fd_X9_55 ?_
        refine fm_bipush (by decide) dX9_lines_272 ?_
        refine fm_ild6 dX9_lines_274 ?_
        refine fm_imul dX9_lines_276 ?_
        refine fm_bipush (by decide) dX9_lines_277 ?_
        refine fm_iadd dX9_lines_279 ?_
        refine fm_ild5 dX9_lines_280 ?_
        refine fm_iadd dX9_lines_282 ?_
        refine fm_iconst dX9_lines_283 ?_
        refine fm_iadd dX9_lines_284 ?_
        refine fm_iald dX9_lines_285 ma_16 (by omega) (by omega) ?_
        rw [rD (by omega) (by omega)]
        refine fm_ald0 dX9_lines_286 ?_
        refine fm_ild1 dX9_lines_287 ?_
        refine fm_ild6 dX9_lines_288 ?_
        refine fm_ild2 dX9_lines_290 ?_
        refine fm_ild5 dX9_lines_291 ?_
        refine fm_cvI dX9_lines_293 cl_X9_102 (k_X9_pairCost hft (by omega) (by omega) (by omega) (by omega)) mb_0 rfl rfl (by decide) rfl rfl (Nat.le_of_ble_eq_true rfl) (fun z293 s293 q293 => ?_)
        obtain ⟨rfl, rfl⟩ := q293
        rw [rP]
        refine fm_iadd dX9_lines_296 ?_
        refine fm_icmp_ne (⟨by omega, by omega⟩) (⟨by omega, by omega⟩) 318 dX9_lines_297 (by decide) (fun h297 => ?_) (fun h297 => ?_)
        · refine fm_ild5 dX9_lines_318 ?_
          refine fm_ild4 dX9_lines_320 ?_
          refine fm_icmp_ge (⟨by omega, by omega⟩) (⟨by omega, by omega⟩) 353 dX9_lines_322 (by decide) (fun h322 => ?_) (fun h322 => ?_)
          · refine fm_ald0 dX9_lines_353 ?_
            refine gr_8_20 dX9_lines_354 fd_X9_58 ?_
            refine fm_ild6 dX9_lines_357 ?_
            refine fm_bipush (by decide) dX9_lines_359 ?_
            refine fm_iast dX9_lines_361 ma_17 (by omega) (by omega) ?_
            refine fm_inc6 rfl dX9_lines_362 ?_
            refine fm_goto 238 dX9_lines_365 (by decide) ?_
            first
              | (exfalso; omega)
              | (rw [show (i : Int) + 1 = ((i + 1 : Nat) : Int) by omega, show (j : Int) + 1 = ((j + 1 : Nat) : Int) by omega]
                 refine ih (i + 1) (j + 1) _ _ (by omega) (by omega) (by omega) (fun k q hk => by rw [fm_up_ne hk]; exact hr k q hk) (fun k hk => ?_)
                 have e := hp k hk
                 rw [lpa_1 (by omega) (by omega) (by omega)] at e
                 rw [Int.toNat_natCast, lup_up]
                 exact e)
              | (rw [show (j : Int) + 1 = ((j + 1 : Nat) : Int) by omega]
                 refine ih i (j + 1) _ _ (by omega) (by omega) (by omega) hr (fun k hk => ?_)
                 have e := hp k hk
                 rw [lpa_2 (by omega) (by omega) (by omega) (by omega)] at e
                 exact e)
              | (rw [show (i : Int) + 1 = ((i + 1 : Nat) : Int) by omega]
                 refine ih (i + 1) j _ _ (by omega) (by omega) (by omega) (fun k q hk => by rw [fm_up_ne hk]; exact hr k q hk) (fun k hk => ?_)
                 have e := hp k hk
                 rw [lpa_3 (by omega) (by omega) (by omega)] at e
                 rw [Int.toNat_natCast, lup_up]
                 exact e)
          · refine fm_ild7 dX9_lines_325 ?_
            refine fm_ald0 dX9_lines_327 ?_
            refine gr_8_19 dX9_lines_328 fd_X9_55 ?_
            refine fm_bipush (by decide) dX9_lines_331 ?_
            refine fm_ild6 dX9_lines_333 ?_
            refine fm_imul dX9_lines_335 ?_
            refine fm_ild5 dX9_lines_336 ?_
            refine fm_iadd dX9_lines_338 ?_
            refine fm_iconst dX9_lines_339 ?_
            refine fm_iadd dX9_lines_340 ?_
            refine fm_iald dX9_lines_341 ma_16 (by omega) (by omega) ?_
            rw [rL (by omega)]
            refine fm_iconst dX9_lines_342 ?_
            refine fm_iadd dX9_lines_343 ?_
            refine fm_icmp_ne (⟨by omega, by omega⟩) (⟨by omega, by omega⟩) 353 dX9_lines_344 (by decide) (fun h344 => ?_) (fun h344 => ?_)
            · refine fm_ald0 dX9_lines_353 ?_
              refine gr_8_20 dX9_lines_354 fd_X9_58 ?_
              refine fm_ild6 dX9_lines_357 ?_
              refine fm_bipush (by decide) dX9_lines_359 ?_
              refine fm_iast dX9_lines_361 ma_17 (by omega) (by omega) ?_
              refine fm_inc6 rfl dX9_lines_362 ?_
              refine fm_goto 238 dX9_lines_365 (by decide) ?_
              first
                | (exfalso; omega)
                | (rw [show (i : Int) + 1 = ((i + 1 : Nat) : Int) by omega, show (j : Int) + 1 = ((j + 1 : Nat) : Int) by omega]
                   refine ih (i + 1) (j + 1) _ _ (by omega) (by omega) (by omega) (fun k q hk => by rw [fm_up_ne hk]; exact hr k q hk) (fun k hk => ?_)
                   have e := hp k hk
                   rw [lpa_1 (by omega) (by omega) (by omega)] at e
                   rw [Int.toNat_natCast, lup_up]
                   exact e)
                | (rw [show (j : Int) + 1 = ((j + 1 : Nat) : Int) by omega]
                   refine ih i (j + 1) _ _ (by omega) (by omega) (by omega) hr (fun k hk => ?_)
                   have e := hp k hk
                   rw [lpa_2 (by omega) (by omega) (by omega) (by omega)] at e
                   exact e)
                | (rw [show (i : Int) + 1 = ((i + 1 : Nat) : Int) by omega]
                   refine ih (i + 1) j _ _ (by omega) (by omega) (by omega) (fun k q hk => by rw [fm_up_ne hk]; exact hr k q hk) (fun k hk => ?_)
                   have e := hp k hk
                   rw [lpa_3 (by omega) (by omega) (by omega)] at e
                   rw [Int.toNat_natCast, lup_up]
                   exact e)
            · refine fm_inc5 rfl dX9_lines_347 ?_
              refine fm_goto 365 dX9_lines_350 (by decide) ?_
              refine fm_goto 238 dX9_lines_365 (by decide) ?_
              first
                | (exfalso; omega)
                | (rw [show (i : Int) + 1 = ((i + 1 : Nat) : Int) by omega, show (j : Int) + 1 = ((j + 1 : Nat) : Int) by omega]
                   refine ih (i + 1) (j + 1) _ _ (by omega) (by omega) (by omega) (fun k q hk => by rw [fm_up_ne hk]; exact hr k q hk) (fun k hk => ?_)
                   have e := hp k hk
                   rw [lpa_1 (by omega) (by omega) (by omega)] at e
                   rw [Int.toNat_natCast, lup_up]
                   exact e)
                | (rw [show (j : Int) + 1 = ((j + 1 : Nat) : Int) by omega]
                   refine ih i (j + 1) _ _ (by omega) (by omega) (by omega) hr (fun k hk => ?_)
                   have e := hp k hk
                   rw [lpa_2 (by omega) (by omega) (by omega) (by omega)] at e
                   exact e)
                | (rw [show (i : Int) + 1 = ((i + 1 : Nat) : Int) by omega]
                   refine ih (i + 1) j _ _ (by omega) (by omega) (by omega) (fun k q hk => by rw [fm_up_ne hk]; exact hr k q hk) (fun k hk => ?_)
                   have e := hp k hk
                   rw [lpa_3 (by omega) (by omega) (by omega)] at e
                   rw [Int.toNat_natCast, lup_up]
                   exact e)
        · refine fm_ald0 dX9_lines_300 ?_
          refine gr_8_20 dX9_lines_301 fd_X9_58 ?_
          refine fm_ild6 dX9_lines_304 ?_
          refine fm_ild5 dX9_lines_306 ?_
          refine fm_iast dX9_lines_308 ma_17 (by omega) (by omega) ?_
          refine fm_inc6 rfl dX9_lines_309 ?_
          refine fm_inc5 rfl dX9_lines_312 ?_
          refine fm_goto 365 dX9_lines_315 (by decide) ?_
          refine fm_goto 238 dX9_lines_365 (by decide) ?_
          first
            | (exfalso; omega)
            | (rw [show (i : Int) + 1 = ((i + 1 : Nat) : Int) by omega, show (j : Int) + 1 = ((j + 1 : Nat) : Int) by omega]
               refine ih (i + 1) (j + 1) _ _ (by omega) (by omega) (by omega) (fun k q hk => by rw [fm_up_ne hk]; exact hr k q hk) (fun k hk => ?_)
               have e := hp k hk
               rw [lpa_1 (by omega) (by omega) (by omega)] at e
               rw [Int.toNat_natCast, lup_up]
               exact e)
            | (rw [show (j : Int) + 1 = ((j + 1 : Nat) : Int) by omega]
               refine ih i (j + 1) _ _ (by omega) (by omega) (by omega) hr (fun k hk => ?_)
               have e := hp k hk
               rw [lpa_2 (by omega) (by omega) (by omega) (by omega)] at e
               exact e)
            | (rw [show (i : Int) + 1 = ((i + 1 : Nat) : Int) by omega]
               refine ih (i + 1) j _ _ (by omega) (by omega) (by omega) (fun k q hk => by rw [fm_up_ne hk]; exact hr k q hk) (fun k hk => ?_)
               have e := hp k hk
               rw [lpa_3 (by omega) (by omega) (by omega)] at e
               rw [Int.toNat_natCast, lup_up]
               exact e)
set_option maxRecDepth 20000 in
set_option maxHeartbeats 4000000 in
theorem k_X9_lines {ω : fm_O} {σ : fm_Mem} {x y : Int} (hf : fi σ) (hx : 0 ≤ x ∧ x ≤ 6) (hy : 0 ≤ y ∧ y ≤ 6) : fm_Met km ω yX9_lines cX9_lines 8 none (fm_rm 1) [fm_r ω 0, fm_I x, fm_I y] σ (fm_pN fun σ' => fr1 σ σ' ∧ (∀ a b : Nat, a ≤ (σ 1 x.toNat).toNat → b ≤ (σ 1 y.toNat).toNat → σ' 16 (41 * a + b) = lct (lf σ x) (lf σ y) (σ 1 x.toNat).toNat (σ 1 y.toNat).toNat a b) ∧ ∀ k, k < (σ 1 x.toNat).toNat → σ' 17 k = lpt (lf σ x) (lf σ y) (σ 1 x.toNat).toNat (σ 1 y.toNat).toNat k) := by
  refine fm_start (by decide) rfl (Nat.le_of_ble_eq_true rfl) [some (fm_r ω 0), some (fm_I x), some (fm_I y), none, none, none, none, none] rfl (fun Γ => ?_)
  have b1 := hf.2.1 x.toNat (by omega)
  have b2 := hf.2.1 y.toNat (by omega)
  obtain ⟨N, eN⟩ : ∃ N : Nat, N = (σ 1 x.toNat).toNat := ⟨_, rfl⟩
  obtain ⟨M, eM⟩ : ∃ N : Nat, N = (σ 1 y.toNat).toNat := ⟨_, rfl⟩
  rw [← eN, ← eM]
  have hN : σ 1 x.toNat = N := by omega
  have hM : σ 1 y.toNat = M := by omega
  refine fm_ald0 dX9_lines_0 ?_
  refine gr_8_1 dX9_lines_1 fd_X9_7 ?_
  refine fm_ild1 dX9_lines_4 ?_
  refine fm_iald dX9_lines_5 ma_1 (by omega) (by omega) ?_
  rw [hN]
  refine fm_ist3 rfl dX9_lines_6 ?_
  refine fm_ald0 dX9_lines_7 ?_
  refine gr_8_1 dX9_lines_8 fd_X9_7 ?_
  refine fm_ild2 dX9_lines_11 ?_
  refine fm_iald dX9_lines_12 ma_1 (by omega) (by omega) ?_
  rw [hM]
  refine fm_ist4 rfl dX9_lines_13 ?_
  refine fm_ild3 dX9_lines_15 ?_
  refine fm_ist5 rfl dX9_lines_16 ?_
  refine l_lines_out hf hx hy N M (by omega) (by omega) (fun τ o5 o6 o7 hr ht => ?_) (N + 1) (N : Int) σ _ _ (by omega) (by omega) fr1.rfl (fun a b ha hb hab => by omega)
  refine fm_iconst dX9_lines_232 ?_
  refine fm_ist5 rfl dX9_lines_233 ?_
  refine fm_iconst dX9_lines_235 ?_
  refine fm_ist6 rfl dX9_lines_236 ?_
  exact l_lines_tr hf hx hy N M (by omega) (by omega) hr (fun a b ha hb => ht a b ha hb (by omega)) (N + M) 0 0 τ _ (by omega) (by omega) (by omega) (fun _ _ _ => rfl) (fun k hk => lpt_of hk)
end
section
theorem fm_up2 {τ : fm_Mem} {k i : Nat} {u v : Int} : fm_up (fm_up τ k i u) k i v = fm_up τ k i v := by
  funext a b
  unfold fm_up
  split
  · rfl
  · rfl
set_option maxRecDepth 20000 in
set_option maxHeartbeats 4000000 in
theorem k_X1_canLeaveSecond {ω : fm_O} {σ : fm_Mem} {i j : Int} (hi : 0 ≤ i ∧ i < 41) (hj : 0 ≤ j ∧ j < 40) (b1 : (0 ≤ σ (63 + i.toNat) j.toNat ∧ σ (63 + i.toNat) j.toNat ≤ 1000)) (b2 : (0 ≤ σ (63 + i.toNat) (j + 1).toNat ∧ σ (63 + i.toNat) (j + 1).toNat ≤ 1000)) : fm_Met kc ω yX1_canLeaveSecond cX1_canLeaveSecond 3 (some .boolean) (fm_rm 0) [fm_r ω 6, fm_I i, fm_I j] σ (fm_pI fun z σ' => ((σ (63 + i.toNat) j.toNat = 3 + σ (63 + i.toNat) (j + 1).toNat) ∧ z = 1 ∨ ¬ (σ (63 + i.toNat) j.toNat = 3 + σ (63 + i.toNat) (j + 1).toNat) ∧ z = 0) ∧ σ = σ') := by
  refine fm_start (by decide) rfl (Nat.le_of_ble_eq_true rfl) [some (fm_r ω 6), some (fm_I i), some (fm_I j)] rfl (fun Γ => ?_)
  refine fm_ald0 dX1_canLeaveSecond_0 ?_
  refine gr_1_0 dX1_canLeaveSecond_1 fd_X1_11 ?_
  refine fm_ild1 dX1_canLeaveSecond_4 ?_
  refine ar_7 (by omega) (by omega) dX1_canLeaveSecond_5 ?_
  refine fm_ild2 dX1_canLeaveSecond_6 ?_
  refine fm_iald dX1_canLeaveSecond_7 (ia_ll (by omega)) (by omega) (by omega) ?_
  refine fm_iconst dX1_canLeaveSecond_8 ?_
  refine fm_ald0 dX1_canLeaveSecond_9 ?_
  refine gr_1_0 dX1_canLeaveSecond_10 fd_X1_11 ?_
  refine fm_ild1 dX1_canLeaveSecond_13 ?_
  refine ar_7 (by omega) (by omega) dX1_canLeaveSecond_14 ?_
  refine fm_ild2 dX1_canLeaveSecond_15 ?_
  refine fm_iconst dX1_canLeaveSecond_16 ?_
  refine fm_iadd dX1_canLeaveSecond_17 ?_
  refine fm_iald dX1_canLeaveSecond_18 (ia_ll (by omega)) (by omega) (by omega) ?_
  refine fm_iadd dX1_canLeaveSecond_19 ?_
  refine fm_icmp_ne (⟨by omega, by omega⟩) (⟨by omega, by omega⟩) 27 dX1_canLeaveSecond_20 (by decide) (fun h20 => ?_) (fun h20 => ?_)
  · refine fm_iconst dX1_canLeaveSecond_27 ?_
    exact fm_zretI dX1_canLeaveSecond_28 rfl (by omega) ⟨by omega, rfl⟩
  · refine fm_iconst dX1_canLeaveSecond_23 ?_
    refine fm_goto 28 dX1_canLeaveSecond_24 (by decide) ?_
    exact fm_zretI dX1_canLeaveSecond_28 rfl (by omega) ⟨by omega, rfl⟩
set_option maxRecDepth 20000 in
set_option maxHeartbeats 4000000 in
theorem k_X1_canPair {ω : fm_O} {σ : fm_Mem} {a b : Nat} (ha : fm_ia kc a 40) (hb : fm_ia kc b 40) {i j : Int} (hi : 0 ≤ i ∧ i < 40) (hj : 0 ≤ j ∧ j < 40) (ma : 0 ≤ σ a i.toNat ∧ σ a i.toNat ≤ 63) (mb : 0 ≤ σ b j.toNat ∧ σ b j.toNat ≤ 63) (b1 : (0 ≤ σ (63 + i.toNat) j.toNat ∧ σ (63 + i.toNat) j.toNat ≤ 1000)) (b2 : (0 ≤ σ (63 + (i + 1).toNat) (j + 1).toNat ∧ σ (63 + (i + 1).toNat) (j + 1).toNat ≤ 1000)) : fm_Met kc ω yX1_canPair cX1_canPair 5 (some .boolean) (fm_rm 2) [fm_r ω 6, fm_r ω a, fm_I i, fm_r ω b, fm_I j] σ (fm_pI fun z σ' => ((σ (63 + i.toNat) j.toNat = pcost (σ a i.toNat) (σ b j.toNat) + σ (63 + (i + 1).toNat) (j + 1).toNat) ∧ z = 1 ∨ ¬ (σ (63 + i.toNat) j.toNat = pcost (σ a i.toNat) (σ b j.toNat) + σ (63 + (i + 1).toNat) (j + 1).toNat) ∧ z = 0) ∧ σ = σ') := by
  refine fm_start (by decide) rfl (Nat.le_of_ble_eq_true rfl) [some (fm_r ω 6), some (fm_r ω a), some (fm_I i), some (fm_r ω b), some (fm_I j)] rfl (fun Γ => ?_)
  refine fm_ald0 dX1_canPair_0 ?_
  refine gr_1_0 dX1_canPair_1 fd_X1_11 ?_
  refine fm_ild2 dX1_canPair_4 ?_
  refine ar_7 (by omega) (by omega) dX1_canPair_5 ?_
  refine fm_ild4 dX1_canPair_6 ?_
  refine fm_iald dX1_canPair_8 (ia_ll (by omega)) (by omega) (by omega) ?_
  refine fm_ald1 dX1_canPair_9 ?_
  refine fm_ild2 dX1_canPair_10 ?_
  refine fm_iald dX1_canPair_11 ha (by omega) (by omega) ?_
  refine fm_ald3 dX1_canPair_12 ?_
  refine fm_ild4 dX1_canPair_13 ?_
  refine fm_iald dX1_canPair_15 hb (by omega) (by omega) ?_
  refine fm_csI dX1_canPair_16 cl_X1_38 (k_X1_pairCost ma mb) rfl rfl (by decide) rfl rfl (Nat.le_of_ble_eq_true rfl) (fun z16 s16 q16 => ?_)
  obtain ⟨rfl, rfl⟩ := q16
  have bp := pcost_b (σ a i.toNat) (σ b j.toNat)
  refine fm_ald0 dX1_canPair_19 ?_
  refine gr_1_0 dX1_canPair_20 fd_X1_11 ?_
  refine fm_ild2 dX1_canPair_23 ?_
  refine fm_iconst dX1_canPair_24 ?_
  refine fm_iadd dX1_canPair_25 ?_
  refine ar_7 (by omega) (by omega) dX1_canPair_26 ?_
  refine fm_ild4 dX1_canPair_27 ?_
  refine fm_iconst dX1_canPair_29 ?_
  refine fm_iadd dX1_canPair_30 ?_
  refine fm_iald dX1_canPair_31 (ia_ll (by omega)) (by omega) (by omega) ?_
  refine fm_iadd dX1_canPair_32 ?_
  refine fm_icmp_ne (⟨by omega, by omega⟩) (⟨by omega, by omega⟩) 40 dX1_canPair_33 (by decide) (fun h33 => ?_) (fun h33 => ?_)
  · refine fm_iconst dX1_canPair_40 ?_
    exact fm_zretI dX1_canPair_41 rfl (by omega) ⟨by omega, rfl⟩
  · refine fm_iconst dX1_canPair_36 ?_
    refine fm_goto 41 dX1_canPair_37 (by decide) ?_
    exact fm_zretI dX1_canPair_41 rfl (by omega) ⟨by omega, rfl⟩
def fr2 (σ τ : fm_Mem) : Prop := ∀ k x, (k < 63 ∨ 104 ≤ k) → τ k x = σ k x
def fr3 (σ τ : fm_Mem) : Prop := ∀ k x, (k < 63 ∨ 104 ≤ k) → k ≠ 8 → τ k x = σ k x
def tbc (f g : Nat → Int) (N M : Nat) (τ : fm_Mem) (i j : Int) : Prop := ∀ x y : Nat, x ≤ N → y ≤ M → (i < x ∨ (i = x ∧ j < y)) → τ (63 + x) y = lct f g N M x y
theorem fr2.rfl {a : fm_Mem} : fr2 a a := fun _ _ _ => Eq.refl _
theorem fr2.up {a b : fm_Mem} {k j : Nat} {v : Int} (h : fr2 a b) (hk : 63 ≤ k ∧ k < 104) : fr2 a (fm_up b k j v) := fun k2 j2 h1 => by
  rw [fm_up_ne (by omega)]
  exact h k2 j2 h1
theorem fr3.frm {a b : fm_Mem} (h : fr3 a b) : frm a b := fun k j hk => by
  unfold scr at hk
  exact h k j (by omega) (by omega)
set_option maxRecDepth 20000 in
set_option maxHeartbeats 4000000 in
theorem l_fl1 {ω : fm_O} {σ : fm_Mem} {Γ : fm_G} {P : Option Value → fm_Mem → Prop} {a b : Nat} (ha : fm_ia kc a 40) (hb : fm_ia kc b 40) (na : a < 57) (nb : b < 57) (ma : ∀ i, i < 40 → 0 ≤ σ a i ∧ σ a i ≤ 63) (mb : ∀ i, i < 40 → 0 ≤ σ b i ∧ σ b i ≤ 63) (N M : Nat) (hN : N ≤ 40) (hM : M ≤ 40) (hK : ∀ (τ : fm_Mem) (o5 : Option Value), fr2 σ τ → tbc (σ a) (σ b) N M τ ((N : Int) - 1) M → fm_W kc ω Γ (cX1_fillLeast, RX1, fm_rm 2, 10, none) P τ 32 [some (fm_r ω 6), some (fm_r ω a), some (fm_I (N : Int)), some (fm_r ω b), some (fm_I (M : Int)), o5, none, none, none, none] []) : ∀ (d : Nat) (z : Int) (τ : fm_Mem), 0 ≤ z → z + d = M + 1 → fr2 σ τ → (∀ y : Nat, (y : Int) < z → τ (63 + N) y = lct (σ a) (σ b) N M N y) → fm_W kc ω Γ (cX1_fillLeast, RX1, fm_rm 2, 10, none) P τ 3 [some (fm_r ω 6), some (fm_r ω a), some (fm_I (N : Int)), some (fm_r ω b), some (fm_I (M : Int)), some (fm_I z), none, none, none, none] [] := by
  intro d
  induction d with
  | zero =>
    intro z τ h0 hz hr ht
    refine fm_ild5 dX1_fillLeast_3 ?_
    refine fm_ild4 dX1_fillLeast_5 ?_
    refine fm_icmp_gt (⟨by omega, by omega⟩) (⟨by omega, by omega⟩) 32 dX1_fillLeast_7 (by decide) (fun h7 => ?_) (fun h7 => ?_)
    · exact hK τ _ hr (fun x y hx hy hxy => by rw [show x = N by omega]; exact ht y (by omega))
    · exfalso; omega
  | succ d ih =>
    intro z τ h0 hz hr ht
    refine fm_ild5 dX1_fillLeast_3 ?_
    refine fm_ild4 dX1_fillLeast_5 ?_
    refine fm_icmp_gt (⟨by omega, by omega⟩) (⟨by omega, by omega⟩) 32 dX1_fillLeast_7 (by decide) (fun h7 => ?_) (fun h7 => ?_)
    · exfalso; omega
    · refine fm_ald0 dX1_fillLeast_10 ?_
      refine gr_1_0 dX1_fillLeast_11 fd_X1_11 ?_
      refine fm_ild2 dX1_fillLeast_14 ?_
      refine ar_7 (by omega) (by omega) dX1_fillLeast_15 ?_
      rw [Int.toNat_natCast]
      refine fm_ild5 dX1_fillLeast_16 ?_
      refine fm_iconst dX1_fillLeast_18 ?_
      refine fm_ild4 dX1_fillLeast_19 ?_
      refine fm_ild5 dX1_fillLeast_21 ?_
      refine fm_isub dX1_fillLeast_23 ?_
      refine fm_imul dX1_fillLeast_24 ?_
      refine fm_iast dX1_fillLeast_25 (ia_ll (by omega)) (by omega) (by omega) ?_
      refine fm_inc5 rfl dX1_fillLeast_26 ?_
      refine fm_goto 3 dX1_fillLeast_29 (by decide) ?_
      refine ih (z + 1) _ (by omega) (by omega) (hr.up (by omega)) (fun y hy => ?_)
      by_cases e : y = z.toNat
      · rw [e, fm_up_eq, lct_n (by omega)]; omega
      · rw [fm_up_nj e]; exact ht y (by omega)
set_option maxRecDepth 20000 in
set_option maxHeartbeats 4000000 in
theorem l_fl2 {ω : fm_O} {σ : fm_Mem} {Γ : fm_G} {P : Option Value → fm_Mem → Prop} {a b : Nat} (ha : fm_ia kc a 40) (hb : fm_ia kc b 40) (na : a < 57) (nb : b < 57) (ma : ∀ i, i < 40 → 0 ≤ σ a i ∧ σ a i ≤ 63) (mb : ∀ i, i < 40 → 0 ≤ σ b i ∧ σ b i ≤ 63) (N M : Nat) (hN : N ≤ 40) (hM : M ≤ 40) {i : Int} (hi : 0 ≤ i ∧ i < N) (hK : ∀ (τ : fm_Mem) (o8 o9 : Option Value), fr2 σ τ → tbc (σ a) (σ b) N M τ i (-1) → fm_W kc ω Γ (cX1_fillLeast, RX1, fm_rm 2, 10, none) P τ 138 [some (fm_r ω 6), some (fm_r ω a), some (fm_I (N : Int)), some (fm_r ω b), some (fm_I (M : Int)), some (fm_I i), some (fm_r ω (63 + i.toNat)), some (fm_r ω (63 + (i + 1).toNat)), o8, o9] []) : ∀ (d : Nat) (j : Int) (τ : fm_Mem) (o9 : Option Value), j + 1 = d → j < M → fr2 σ τ → tbc (σ a) (σ b) N M τ i j → fm_W kc ω Γ (cX1_fillLeast, RX1, fm_rm 2, 10, none) P τ 79 [some (fm_r ω 6), some (fm_r ω a), some (fm_I (N : Int)), some (fm_r ω b), some (fm_I (M : Int)), some (fm_I i), some (fm_r ω (63 + i.toNat)), some (fm_r ω (63 + (i + 1).toNat)), some (fm_I j), o9] [] := by
  have ei : (i + 1).toNat = i.toNat + 1 := by omega
  intro d
  induction d with
  | zero =>
    intro j τ o9 hd hj hr ht
    refine fm_ild8 dX1_fillLeast_79 ?_
    refine fm_if_lt (⟨by omega, by omega⟩) 138 dX1_fillLeast_81 (by decide) (fun h81 => ?_) (fun h81 => ?_)
    · exact hK τ _ _ hr (by rw [show (-1 : Int) = j by omega]; exact ht)
    · exfalso; omega
  | succ d ih =>
    intro j τ o9 hd hj hr ht
    have bL := lct_b (f := (σ a)) (g := (σ b)) (i := i.toNat) (j := j.toNat + 1) hN hM
    have bU := lct_b (f := (σ a)) (g := (σ b)) (i := i.toNat + 1) (j := j.toNat) hN hM
    have bD := lct_b (f := (σ a)) (g := (σ b)) (i := i.toNat + 1) (j := j.toNat + 1) hN hM
    have bP := pcost_b (σ a i.toNat) (σ b j.toNat)
    have ej : (j + 1).toNat = j.toNat + 1 := by omega
    have rL : τ (63 + i.toNat) (j.toNat + 1) = lct (σ a) (σ b) N M i.toNat (j.toNat + 1) := ht _ _ (by omega) (by omega) (by omega)
    have rU : τ (63 + (i.toNat + 1)) j.toNat = lct (σ a) (σ b) N M (i.toNat + 1) j.toNat := ht _ _ (by omega) (by omega) (by omega)
    have rD : τ (63 + (i.toNat + 1)) (j.toNat + 1) = lct (σ a) (σ b) N M (i.toNat + 1) (j.toNat + 1) := ht _ _ (by omega) (by omega) (by omega)
    have rA : τ a i.toNat = σ a i.toNat := hr _ _ (by omega)
    have rB : τ b j.toNat = σ b j.toNat := hr _ _ (by omega)
    have m1 := ma i.toNat (by omega)
    have m2 := mb j.toNat (by omega)
    refine fm_ild8 dX1_fillLeast_79 ?_
    refine fm_if_lt (⟨by omega, by omega⟩) 138 dX1_fillLeast_81 (by decide) (fun h81 => ?_) (fun h81 => ?_)
    · exfalso; omega
    · refine fm_iconst dX1_fillLeast_84 ?_
      refine fm_ald6 dX1_fillLeast_85 ?_
      refine fm_ild8 dX1_fillLeast_87 ?_
      refine fm_iconst dX1_fillLeast_89 ?_
      refine fm_iadd dX1_fillLeast_90 ?_
      refine fm_iald dX1_fillLeast_91 (ia_ll (by omega)) (by omega) (by omega) ?_
      rw [ej, rL]
      refine fm_ald7 dX1_fillLeast_92 ?_
      refine fm_ild8 dX1_fillLeast_94 ?_
      refine fm_iald dX1_fillLeast_96 (ia_ll (by omega)) (by omega) (by omega) ?_
      rw [ei, rU]
      refine fm_min dX1_fillLeast_97 cl_X1_32 (by decide) (Nat.le_of_ble_eq_true rfl) (⟨by omega, by omega⟩) (⟨by omega, by omega⟩) ?_
      refine fm_iadd dX1_fillLeast_100 ?_
      refine fm_ist9 rfl dX1_fillLeast_101 ?_
      refine fm_ald6 dX1_fillLeast_103 ?_
      refine fm_ild8 dX1_fillLeast_105 ?_
      refine fm_ild9 dX1_fillLeast_107 ?_
      refine fm_ald1 dX1_fillLeast_109 ?_
      refine fm_ild5 dX1_fillLeast_110 ?_
      refine fm_iald dX1_fillLeast_112 ha (by omega) (by omega) ?_
      rw [rA]
      refine fm_ald3 dX1_fillLeast_113 ?_
      refine fm_ild8 dX1_fillLeast_114 ?_
      refine fm_iald dX1_fillLeast_116 hb (by omega) (by omega) ?_
      rw [rB]
      refine fm_csI dX1_fillLeast_117 cl_X1_38 (k_X1_pairCost m1 m2) rfl rfl (by decide) rfl rfl (Nat.le_of_ble_eq_true rfl) (fun z117 s117 q117 => ?_)
      obtain ⟨rfl, rfl⟩ := q117
      refine fm_ald7 dX1_fillLeast_120 ?_
      refine fm_ild8 dX1_fillLeast_122 ?_
      refine fm_iconst dX1_fillLeast_124 ?_
      refine fm_iadd dX1_fillLeast_125 ?_
      refine fm_iald dX1_fillLeast_126 (ia_ll (by omega)) (by omega) (by omega) ?_
      rw [ej, rD]
      refine fm_iadd dX1_fillLeast_127 ?_
      refine fm_min dX1_fillLeast_128 cl_X1_32 (by decide) (Nat.le_of_ble_eq_true rfl) (⟨by omega, by omega⟩) (⟨by omega, by omega⟩) ?_
      refine fm_iast dX1_fillLeast_131 (ia_ll (by omega)) (by omega) (by omega) ?_
      refine fm_inc8 rfl dX1_fillLeast_132 ?_
      refine fm_goto 79 dX1_fillLeast_135 (by decide) ?_
      rw [← ei]
      refine ih (j + -1) _ _ (by omega) (by omega) (hr.up (by omega)) (fun x y hx hy hxy => ?_)
      by_cases e : 63 + x = 63 + i.toNat
      · by_cases e2 : y = j.toNat
        · rw [e, e2, fm_up_eq, show x = i.toNat by omega, lct_s (i := i.toNat) (j := j.toNat) (by omega) (by omega), ei]
        · rw [fm_up_nj e2]; exact ht x y hx hy (by omega)
      · rw [fm_up_ne e]; exact ht x y hx hy (by omega)
set_option maxRecDepth 20000 in
set_option maxHeartbeats 4000000 in
theorem l_fl3 {ω : fm_O} {σ : fm_Mem} {Γ : fm_G} {P : Option Value → fm_Mem → Prop} {a b : Nat} (ha : fm_ia kc a 40) (hb : fm_ia kc b 40) (na : a < 57) (nb : b < 57) (ma : ∀ i, i < 40 → 0 ≤ σ a i ∧ σ a i ≤ 63) (mb : ∀ i, i < 40 → 0 ≤ σ b i ∧ σ b i ≤ 63) (N M : Nat) (hN : N ≤ 40) (hM : M ≤ 40) (hK : ∀ (τ : fm_Mem), fr2 σ τ → tbc (σ a) (σ b) N M τ (-1) M → P none τ) : ∀ (d : Nat) (i : Int) (τ : fm_Mem) (o6 o7 o8 o9 : Option Value), i + 1 = d → i < N → fr2 σ τ → tbc (σ a) (σ b) N M τ i M → fm_W kc ω Γ (cX1_fillLeast, RX1, fm_rm 2, 10, none) P τ 37 [some (fm_r ω 6), some (fm_r ω a), some (fm_I (N : Int)), some (fm_r ω b), some (fm_I (M : Int)), some (fm_I i), o6, o7, o8, o9] [] := by
  intro d
  induction d with
  | zero =>
    intro i τ o6 o7 o8 o9 hd hi hr ht
    refine fm_ild5 dX1_fillLeast_37 ?_
    refine fm_if_lt (⟨by omega, by omega⟩) 144 dX1_fillLeast_39 (by decide) (fun h39 => ?_) (fun h39 => ?_)
    · exact fm_vret dX1_fillLeast_144 rfl (hK τ hr (by rw [show (-1 : Int) = i by omega]; exact ht))
    · exfalso; omega
  | succ d ih =>
    intro i τ o6 o7 o8 o9 hd hi hr ht
    have hK2 : ∀ (τ : fm_Mem) (o8 o9 : Option Value), fr2 σ τ → tbc (σ a) (σ b) N M τ i (-1) → fm_W kc ω Γ (cX1_fillLeast, RX1, fm_rm 2, 10, none) P τ 138 [some (fm_r ω 6), some (fm_r ω a), some (fm_I (N : Int)), some (fm_r ω b), some (fm_I (M : Int)), some (fm_I i), some (fm_r ω (63 + i.toNat)), some (fm_r ω (63 + (i + 1).toNat)), o8, o9] [] := by
      intro τ o8 o9 hr ht
      refine fm_inc5 rfl dX1_fillLeast_138 ?_
      refine fm_goto 37 dX1_fillLeast_141 (by decide) ?_
      exact ih (i + -1) τ _ _ _ _ (by omega) (by omega) hr (fun x y hx hy hxy => ht x y hx hy (by omega))
    refine fm_ild5 dX1_fillLeast_37 ?_
    refine fm_if_lt (⟨by omega, by omega⟩) 144 dX1_fillLeast_39 (by decide) (fun h39 => ?_) (fun h39 => ?_)
    · exfalso; omega
    · refine fm_ald0 dX1_fillLeast_42 ?_
      refine gr_1_0 dX1_fillLeast_43 fd_X1_11 ?_
      refine fm_ild5 dX1_fillLeast_46 ?_
      refine ar_7 (by omega) (by omega) dX1_fillLeast_48 ?_
      refine fm_ast6 rfl dX1_fillLeast_49 ?_
      refine fm_ald0 dX1_fillLeast_51 ?_
      refine gr_1_0 dX1_fillLeast_52 fd_X1_11 ?_
      refine fm_ild5 dX1_fillLeast_55 ?_
      refine fm_iconst dX1_fillLeast_57 ?_
      refine fm_iadd dX1_fillLeast_58 ?_
      refine ar_7 (by omega) (by omega) dX1_fillLeast_59 ?_
      refine fm_ast7 rfl dX1_fillLeast_60 ?_
      refine fm_ald6 dX1_fillLeast_62 ?_
      refine fm_ild4 dX1_fillLeast_64 ?_
      refine fm_iconst dX1_fillLeast_66 ?_
      refine fm_ild2 dX1_fillLeast_67 ?_
      refine fm_ild5 dX1_fillLeast_68 ?_
      refine fm_isub dX1_fillLeast_70 ?_
      refine fm_imul dX1_fillLeast_71 ?_
      refine fm_iast dX1_fillLeast_72 (ia_ll (by omega)) (by omega) (by omega) ?_
      refine fm_ild4 dX1_fillLeast_73 ?_
      refine fm_iconst dX1_fillLeast_75 ?_
      refine fm_isub dX1_fillLeast_76 ?_
      refine fm_ist8 rfl dX1_fillLeast_77 ?_
      refine l_fl2 ha hb na nb ma mb N M hN hM (by omega) hK2 M ((M : Int) - 1) _ _ (by omega) (by omega) (hr.up (by omega)) (fun x y hx hy hxy => ?_)
      rw [Int.toNat_natCast]
      by_cases e : 63 + x = 63 + i.toNat
      · by_cases e2 : y = M
        · rw [e, e2, fm_up_eq, show x = i.toNat by omega, lct_m (by omega)]; omega
        · omega
      · rw [fm_up_ne e]; exact ht x y hx hy (by omega)
set_option maxRecDepth 20000 in
set_option maxHeartbeats 4000000 in
theorem k_X1_fillLeast {ω : fm_O} {σ : fm_Mem} {a b : Nat} {n m : Int} (ha : fm_ia kc a 40) (hb : fm_ia kc b 40) (na : a < 57 ∧ a ≠ 8) (nb : b < 57 ∧ b ≠ 8) (ma : ∀ i, i < 40 → 0 ≤ σ a i ∧ σ a i ≤ 63) (mb : ∀ i, i < 40 → 0 ≤ σ b i ∧ σ b i ≤ 63) (hn : 0 ≤ n ∧ n ≤ 40) (hm : 0 ≤ m ∧ m ≤ 40) : fm_Met kc ω yX1_fillLeast cX1_fillLeast 10 none (fm_rm 2) [fm_r ω 6, fm_r ω a, fm_I n, fm_r ω b, fm_I m] σ (fm_pN fun σ' => fr2 σ σ' ∧ ∀ x y : Nat, x ≤ n.toNat → y ≤ m.toNat → σ' (63 + x) y = lct (σ a) (σ b) n.toNat m.toNat x y) := by
  refine fm_start (by decide) rfl (Nat.le_of_ble_eq_true rfl) [some (fm_r ω 6), some (fm_r ω a), some (fm_I n), some (fm_r ω b), some (fm_I m), none, none, none, none, none] rfl (fun Γ => ?_)
  obtain ⟨N, rfl⟩ : ∃ N : Nat, n = N := ⟨n.toNat, by omega⟩
  obtain ⟨M, rfl⟩ : ∃ N : Nat, m = N := ⟨m.toNat, by omega⟩
  rw [Int.toNat_natCast, Int.toNat_natCast]
  refine fm_iconst dX1_fillLeast_0 ?_
  refine fm_ist5 rfl dX1_fillLeast_1 ?_
  refine l_fl1 ha hb na.1 nb.1 ma mb N M (by omega) (by omega) (fun τ o5 hr ht => ?_) (M + 1) 0 σ (by omega) (by omega) fr2.rfl (fun y hy => by omega)
  refine fm_ild2 dX1_fillLeast_32 ?_
  refine fm_iconst dX1_fillLeast_33 ?_
  refine fm_isub dX1_fillLeast_34 ?_
  refine fm_ist5 rfl dX1_fillLeast_35 ?_
  refine l_fl3 ha hb na.1 nb.1 ma mb N M (by omega) (by omega) (fun τ hr ht => ⟨rfl, hr, fun x y hx hy => ht x y hx hy (by omega)⟩) N ((N : Int) - 1) τ _ _ _ _ (by omega) (by omega) hr ht
set_option maxRecDepth 20000 in
set_option maxHeartbeats 4000000 in
theorem k_cP {ω : fm_O} {σ τ : fm_Mem} {a b : Nat} (ha : fm_ia kc a 40) (hb : fm_ia kc b 40) (na : a < 57 ∧ a ≠ 8) (nb : b < 57 ∧ b ≠ 8) (ma : ∀ i, i < 40 → 0 ≤ σ a i ∧ σ a i ≤ 63) (mb : ∀ i, i < 40 → 0 ≤ σ b i ∧ σ b i ≤ 63) (N M : Nat) (hN : N ≤ 40) (hM : M ≤ 40) (hr : fr3 σ τ) (ht : ∀ x y : Nat, x ≤ N → y ≤ M → τ (63 + x) y = lct (σ a) (σ b) N M x y) {i j : Nat} (hi : i < N) (hj : j < M) : fm_Met kc ω yX1_canPair cX1_canPair 5 (some .boolean) (fm_rm 2) [fm_r ω 6, fm_r ω a, fm_I (i : Int), fm_r ω b, fm_I (j : Int)] τ (fm_pI fun z σ' => ((lct (σ a) (σ b) N M i j = lct (σ a) (σ b) N M (i + 1) (j + 1) + pcost ((σ a) i) ((σ b) j)) ∧ z = 1 ∨ ¬ (lct (σ a) (σ b) N M i j = lct (σ a) (σ b) N M (i + 1) (j + 1) + pcost ((σ a) i) ((σ b) j)) ∧ z = 0) ∧ τ = σ') := by
  have e1 : τ (63 + i) j = lct (σ a) (σ b) N M i j := ht i j (by omega) (by omega)
  have e2 : τ (63 + (i + 1)) (j + 1) = lct (σ a) (σ b) N M (i + 1) (j + 1) := ht (i + 1) (j + 1) (by omega) (by omega)
  have e3 : τ a i = σ a i := hr a i (by omega) (by omega)
  have e4 : τ b j = σ b j := hr b j (by omega) (by omega)
  have b1 := lct_b (f := (σ a)) (g := (σ b)) (i := i) (j := j) hN hM
  have b2 := lct_b (f := (σ a)) (g := (σ b)) (i := i + 1) (j := j + 1) hN hM
  have m1 := ma i (by omega)
  have m2 := mb j (by omega)
  have h := k_X1_canPair (ω := ω) (σ := τ) ha hb (i := (i : Int)) (j := (j : Int)) (by omega) (by omega) (by rw [Int.toNat_natCast, e3]; exact m1) (by rw [Int.toNat_natCast, e4]; exact m2) (by rw [Int.toNat_natCast, Int.toNat_natCast, e1]; omega) (by rw [show ((i : Int) + 1).toNat = i + 1 by omega, show ((j : Int) + 1).toNat = j + 1 by omega, e2]; omega)
  rw [Int.toNat_natCast, Int.toNat_natCast, show ((i : Int) + 1).toNat = i + 1 by omega, show ((j : Int) + 1).toNat = j + 1 by omega, e1, e2, e3, e4, Int.add_comm (pcost _ _)] at h
  exact h
set_option maxRecDepth 20000 in
set_option maxHeartbeats 4000000 in
theorem k_cL {ω : fm_O} {σ τ : fm_Mem} {a b : Nat} (N M : Nat) (hN : N ≤ 40) (hM : M ≤ 40) (ht : ∀ x y : Nat, x ≤ N → y ≤ M → τ (63 + x) y = lct (σ a) (σ b) N M x y) {i j : Nat} (hi : i < N) (hj : j < M) : fm_Met kc ω yX1_canLeaveSecond cX1_canLeaveSecond 3 (some .boolean) (fm_rm 0) [fm_r ω 6, fm_I (i : Int), fm_I (j : Int)] τ (fm_pI fun z σ' => ((lct (σ a) (σ b) N M i j = lct (σ a) (σ b) N M i (j + 1) + 3) ∧ z = 1 ∨ ¬ (lct (σ a) (σ b) N M i j = lct (σ a) (σ b) N M i (j + 1) + 3) ∧ z = 0) ∧ τ = σ') := by
  have e1 : τ (63 + i) j = lct (σ a) (σ b) N M i j := ht i j (by omega) (by omega)
  have e2 : τ (63 + i) (j + 1) = lct (σ a) (σ b) N M i (j + 1) := ht i (j + 1) (by omega) (by omega)
  have b1 := lct_b (f := (σ a)) (g := (σ b)) (i := i) (j := j) hN hM
  have b2 := lct_b (f := (σ a)) (g := (σ b)) (i := i) (j := j + 1) hN hM
  have h := k_X1_canLeaveSecond (ω := ω) (σ := τ) (i := (i : Int)) (j := (j : Int)) (by omega) (by omega) (by rw [Int.toNat_natCast, Int.toNat_natCast, e1]; omega) (by rw [Int.toNat_natCast, show ((j : Int) + 1).toNat = j + 1 by omega, e2]; omega)
  rw [Int.toNat_natCast, Int.toNat_natCast, show ((j : Int) + 1).toNat = j + 1 by omega, e1, e2, Int.add_comm 3] at h
  exact h
set_option maxRecDepth 20000 in
set_option maxHeartbeats 4000000 in
theorem l_lineUp {ω : fm_O} {σ : fm_Mem} {Γ : fm_G} {a b : Nat} (ha : fm_ia kc a 40) (hb : fm_ia kc b 40) (na : a < 57 ∧ a ≠ 8) (nb : b < 57 ∧ b ≠ 8) (ma : ∀ i, i < 40 → 0 ≤ σ a i ∧ σ a i ≤ 63) (mb : ∀ i, i < 40 → 0 ≤ σ b i ∧ σ b i ≤ 63) (N M : Nat) (hN : N ≤ 40) (hM : M ≤ 40) : ∀ (d i j : Nat) (τ : fm_Mem), (N - i) + (M - j) ≤ d → i < N → j ≤ M → fr3 σ τ → (∀ x y : Nat, x ≤ N → y ≤ M → τ (63 + x) y = lct (σ a) (σ b) N M x y) → (∀ k, k < N → lpa (σ a) (σ b) N M i j (τ 8) k = lpt (σ a) (σ b) N M k) → fm_W kc ω Γ (cX1_lineUp, RX1, fm_rm 3, 7, none) (fm_pN fun σ' => fr3 σ σ' ∧ (∀ x y : Nat, x ≤ N → y ≤ M → σ' (63 + x) y = lct (σ a) (σ b) N M x y) ∧ ∀ k, k < N → σ' 8 k = lpt (σ a) (σ b) N M k) τ 21 [some (fm_r ω 6), some (fm_r ω a), some (fm_I (N : Int)), some (fm_r ω b), some (fm_I (M : Int)), some (fm_I (j : Int)), some (fm_I (i : Int))] [] := by
  intro d
  induction d with
  | zero =>
    intro i j τ hd hi
    omega
  | succ d ih =>
    intro i j τ hd hi hj hr ht hp
    have hr1 : ∀ v : Int, fr3 σ (fm_up τ 8 i v) := fun v k q h1 h2 => by rw [fm_up_ne h2]; exact hr k q h1 h2
    have ht1 : ∀ v : Int, ∀ x y : Nat, x ≤ N → y ≤ M → fm_up τ 8 i v (63 + x) y = lct (σ a) (σ b) N M x y := fun v x y hx hy => by rw [fm_up_ne (by omega)]; exact ht x y hx hy
    have J58 : ¬ (j < M ∧ ¬ (lct (σ a) (σ b) N M i j = lct (σ a) (σ b) N M (i + 1) (j + 1) + pcost ((σ a) i) ((σ b) j)) ∧ lct (σ a) (σ b) N M i j = lct (σ a) (σ b) N M i (j + 1) + 3) → fm_W kc ω Γ (cX1_lineUp, RX1, fm_rm 3, 7, none) (fm_pN fun σ' => fr3 σ σ' ∧ (∀ x y : Nat, x ≤ N → y ≤ M → σ' (63 + x) y = lct (σ a) (σ b) N M x y) ∧ ∀ k, k < N → σ' 8 k = lpt (σ a) (σ b) N M k) τ 58 [some (fm_r ω 6), some (fm_r ω a), some (fm_I (N : Int)), some (fm_r ω b), some (fm_I (M : Int)), some (fm_I (j : Int)), some (fm_I (i : Int))] [] := by
      intro hnl
      refine fm_ald0 dX1_lineUp_58 ?_
      refine gr_1_1 dX1_lineUp_59 fd_X1_16 ?_
      refine fm_ild6 dX1_lineUp_62 ?_
      refine fm_bipush (by decide) dX1_lineUp_64 ?_
      refine fm_iast dX1_lineUp_66 ia_8 (by omega) (by omega) ?_
      rw [Int.toNat_natCast]
      refine fm_ild5 dX1_lineUp_67 ?_
      refine fm_ild4 dX1_lineUp_69 ?_
      refine fm_icmp_ge (⟨by omega, by omega⟩) (⟨by omega, by omega⟩) 99 dX1_lineUp_71 (by decide) (fun h71 => ?_) (fun h71 => ?_)
      · refine fm_inc6 rfl dX1_lineUp_99 ?_
        refine fm_goto 15 dX1_lineUp_102 (by decide) ?_
        refine fm_ild6 dX1_lineUp_15 ?_
        refine fm_ild2 dX1_lineUp_17 ?_
        refine fm_icmp_ge (⟨by omega, by omega⟩) (⟨by omega, by omega⟩) 105 dX1_lineUp_18 (by decide) (fun h18 => ?_) (fun h18 => ?_)
        · first
            | (rw [fm_up2]
               refine fm_vretN dX1_lineUp_105 rfl ⟨hr1 _, ht1 _, fun k hk => ?_⟩
               have e := hp k hk
               rw [lpa_1 (by omega) (by omega) (by omega), lpa_end (by omega)] at e
               rw [lup_up]
               exact e)
            | (refine fm_vretN dX1_lineUp_105 rfl ⟨hr1 _, ht1 _, fun k hk => ?_⟩
               have e := hp k hk
               rw [lpa_3 (by omega) (by omega) (by omega), lpa_end (by omega)] at e
               rw [lup_up]
               exact e)
        · first
            | (rw [show (i : Int) + 1 = ((i + 1 : Nat) : Int) by omega, show (j : Int) + 1 = ((j + 1 : Nat) : Int) by omega, fm_up2]
               refine ih (i + 1) (j + 1) _ (by omega) (by omega) (by omega) (hr1 _) (ht1 _) (fun k hk => ?_)
               have e := hp k hk
               rw [lpa_1 (by omega) (by omega) (by omega)] at e
               rw [lup_up]
               exact e)
            | (rw [show (i : Int) + 1 = ((i + 1 : Nat) : Int) by omega]
               refine ih (i + 1) j _ (by omega) (by omega) (by omega) (hr1 _) (ht1 _) (fun k hk => ?_)
               have e := hp k hk
               rw [lpa_3 (by omega) (by omega) (by omega)] at e
               rw [lup_up]
               exact e)
      · refine fm_ald0 dX1_lineUp_74 ?_
        refine fm_ald1 dX1_lineUp_75 ?_
        refine fm_ild6 dX1_lineUp_76 ?_
        refine fm_ald3 dX1_lineUp_78 ?_
        refine fm_ild5 dX1_lineUp_79 ?_
        refine fm_cvI dX1_lineUp_81 cl_X1_24 (k_cP ha hb na nb ma mb N M hN hM (hr1 _) (ht1 _) (by omega) (by omega)) ob_6 rfl rfl (by decide) rfl rfl (Nat.le_of_ble_eq_true rfl) (fun z81 s81 q81 => ?_)
        obtain ⟨q81, rfl⟩ := q81
        refine fm_if_eq (⟨by omega, by omega⟩) 99 dX1_lineUp_84 (by decide) (fun h84 => ?_) (fun h84 => ?_)
        · refine fm_inc6 rfl dX1_lineUp_99 ?_
          refine fm_goto 15 dX1_lineUp_102 (by decide) ?_
          refine fm_ild6 dX1_lineUp_15 ?_
          refine fm_ild2 dX1_lineUp_17 ?_
          refine fm_icmp_ge (⟨by omega, by omega⟩) (⟨by omega, by omega⟩) 105 dX1_lineUp_18 (by decide) (fun h18 => ?_) (fun h18 => ?_)
          · first
              | (rw [fm_up2]
                 refine fm_vretN dX1_lineUp_105 rfl ⟨hr1 _, ht1 _, fun k hk => ?_⟩
                 have e := hp k hk
                 rw [lpa_1 (by omega) (by omega) (by omega), lpa_end (by omega)] at e
                 rw [lup_up]
                 exact e)
              | (refine fm_vretN dX1_lineUp_105 rfl ⟨hr1 _, ht1 _, fun k hk => ?_⟩
                 have e := hp k hk
                 rw [lpa_3 (by omega) (by omega) (by omega), lpa_end (by omega)] at e
                 rw [lup_up]
                 exact e)
          · first
              | (rw [show (i : Int) + 1 = ((i + 1 : Nat) : Int) by omega, show (j : Int) + 1 = ((j + 1 : Nat) : Int) by omega, fm_up2]
                 refine ih (i + 1) (j + 1) _ (by omega) (by omega) (by omega) (hr1 _) (ht1 _) (fun k hk => ?_)
                 have e := hp k hk
                 rw [lpa_1 (by omega) (by omega) (by omega)] at e
                 rw [lup_up]
                 exact e)
              | (rw [show (i : Int) + 1 = ((i + 1 : Nat) : Int) by omega]
                 refine ih (i + 1) j _ (by omega) (by omega) (by omega) (hr1 _) (ht1 _) (fun k hk => ?_)
                 have e := hp k hk
                 rw [lpa_3 (by omega) (by omega) (by omega)] at e
                 rw [lup_up]
                 exact e)
        · refine fm_ald0 dX1_lineUp_87 ?_
          refine gr_1_1 dX1_lineUp_88 fd_X1_16 ?_
          refine fm_ild6 dX1_lineUp_91 ?_
          refine fm_ild5 dX1_lineUp_93 ?_
          refine fm_iast dX1_lineUp_95 ia_8 (by omega) (by omega) ?_
          rw [Int.toNat_natCast]
          refine fm_inc5 rfl dX1_lineUp_96 ?_
          refine fm_inc6 rfl dX1_lineUp_99 ?_
          refine fm_goto 15 dX1_lineUp_102 (by decide) ?_
          refine fm_ild6 dX1_lineUp_15 ?_
          refine fm_ild2 dX1_lineUp_17 ?_
          refine fm_icmp_ge (⟨by omega, by omega⟩) (⟨by omega, by omega⟩) 105 dX1_lineUp_18 (by decide) (fun h18 => ?_) (fun h18 => ?_)
          · first
              | (rw [fm_up2]
                 refine fm_vretN dX1_lineUp_105 rfl ⟨hr1 _, ht1 _, fun k hk => ?_⟩
                 have e := hp k hk
                 rw [lpa_1 (by omega) (by omega) (by omega), lpa_end (by omega)] at e
                 rw [lup_up]
                 exact e)
              | (refine fm_vretN dX1_lineUp_105 rfl ⟨hr1 _, ht1 _, fun k hk => ?_⟩
                 have e := hp k hk
                 rw [lpa_3 (by omega) (by omega) (by omega), lpa_end (by omega)] at e
                 rw [lup_up]
                 exact e)
          · first
              | (rw [show (i : Int) + 1 = ((i + 1 : Nat) : Int) by omega, show (j : Int) + 1 = ((j + 1 : Nat) : Int) by omega, fm_up2]
                 refine ih (i + 1) (j + 1) _ (by omega) (by omega) (by omega) (hr1 _) (ht1 _) (fun k hk => ?_)
                 have e := hp k hk
                 rw [lpa_1 (by omega) (by omega) (by omega)] at e
                 rw [lup_up]
                 exact e)
              | (rw [show (i : Int) + 1 = ((i + 1 : Nat) : Int) by omega]
                 refine ih (i + 1) j _ (by omega) (by omega) (by omega) (hr1 _) (ht1 _) (fun k hk => ?_)
                 have e := hp k hk
                 rw [lpa_3 (by omega) (by omega) (by omega)] at e
                 rw [lup_up]
                 exact e)
    refine fm_ild5 dX1_lineUp_21 ?_
    refine fm_ild4 dX1_lineUp_23 ?_
    refine fm_icmp_ge (⟨by omega, by omega⟩) (⟨by omega, by omega⟩) 58 dX1_lineUp_25 (by decide) (fun h25 => ?_) (fun h25 => ?_)
    · exact J58 (by omega)
    · refine fm_ald0 dX1_lineUp_28 ?_
      refine fm_ald1 dX1_lineUp_29 ?_
      refine fm_ild6 dX1_lineUp_30 ?_
      refine fm_ald3 dX1_lineUp_32 ?_
      refine fm_ild5 dX1_lineUp_33 ?_
      refine fm_cvI dX1_lineUp_35 cl_X1_24 (k_cP ha hb na nb ma mb N M hN hM hr ht (by omega) (by omega)) ob_6 rfl rfl (by decide) rfl rfl (Nat.le_of_ble_eq_true rfl) (fun z35 s35 q35 => ?_)
      obtain ⟨q35, rfl⟩ := q35
      refine fm_if_ne (⟨by omega, by omega⟩) 58 dX1_lineUp_38 (by decide) (fun h38 => ?_) (fun h38 => ?_)
      · exact J58 (by omega)
      · refine fm_ald0 dX1_lineUp_41 ?_
        refine fm_ild6 dX1_lineUp_42 ?_
        refine fm_ild5 dX1_lineUp_44 ?_
        refine fm_cvI dX1_lineUp_46 cl_X1_28 (k_cL N M hN hM ht (by omega) (by omega)) ob_6 rfl rfl (by decide) rfl rfl (Nat.le_of_ble_eq_true rfl) (fun z46 s46 q46 => ?_)
        obtain ⟨q46, rfl⟩ := q46
        refine fm_if_eq (⟨by omega, by omega⟩) 58 dX1_lineUp_49 (by decide) (fun h49 => ?_) (fun h49 => ?_)
        · exact J58 (by omega)
        · refine fm_inc5 rfl dX1_lineUp_52 ?_
          refine fm_goto 21 dX1_lineUp_55 (by decide) ?_
          rw [show (j : Int) + 1 = ((j + 1 : Nat) : Int) by omega]
          refine ih i (j + 1) τ (by omega) (by omega) (by omega) hr ht (fun k hk => ?_)
          have e := hp k hk
          rw [lpa_2 (by omega) (by omega) (by omega) (by omega)] at e
          exact e
set_option maxRecDepth 20000 in
set_option maxHeartbeats 4000000 in
theorem k_X1_lineUp {ω : fm_O} {σ : fm_Mem} {a b : Nat} {n m : Int} (ha : fm_ia kc a 40) (hb : fm_ia kc b 40) (na : a < 57 ∧ a ≠ 8) (nb : b < 57 ∧ b ≠ 8) (ma : ∀ i, i < 40 → 0 ≤ σ a i ∧ σ a i ≤ 63) (mb : ∀ i, i < 40 → 0 ≤ σ b i ∧ σ b i ≤ 63) (hn : 0 ≤ n ∧ n ≤ 40) (hm : 0 ≤ m ∧ m ≤ 40) : fm_Met kc ω yX1_lineUp cX1_lineUp 7 none (fm_rm 3) [fm_r ω 6, fm_r ω a, fm_I n, fm_r ω b, fm_I m] σ (fm_pN fun σ' => fr3 σ σ' ∧ (∀ x y : Nat, x ≤ n.toNat → y ≤ m.toNat → σ' (63 + x) y = lct (σ a) (σ b) n.toNat m.toNat x y) ∧ ∀ k, k < n.toNat → σ' 8 k = lpt (σ a) (σ b) n.toNat m.toNat k) := by
  refine fm_start (by decide) rfl (Nat.le_of_ble_eq_true rfl) [some (fm_r ω 6), some (fm_r ω a), some (fm_I n), some (fm_r ω b), some (fm_I m), none, none] rfl (fun Γ => ?_)
  obtain ⟨N, rfl⟩ : ∃ N : Nat, n = N := ⟨n.toNat, by omega⟩
  obtain ⟨M, rfl⟩ : ∃ N : Nat, m = N := ⟨m.toNat, by omega⟩
  rw [Int.toNat_natCast, Int.toNat_natCast]
  refine fm_ald0 dX1_lineUp_0 ?_
  refine fm_ald1 dX1_lineUp_1 ?_
  refine fm_ild2 dX1_lineUp_2 ?_
  refine fm_ald3 dX1_lineUp_3 ?_
  refine fm_ild4 dX1_lineUp_4 ?_
  refine fm_cvN dX1_lineUp_6 cl_X1_20 (k_X1_fillLeast ha hb na nb ma mb hn hm) ob_6 rfl rfl (by decide) rfl rfl (Nat.le_of_ble_eq_true rfl) (fun s6 q6 => ?_)
  rw [Int.toNat_natCast, Int.toNat_natCast] at q6
  refine fm_iconst dX1_lineUp_9 ?_
  refine fm_ist5 rfl dX1_lineUp_10 ?_
  refine fm_iconst dX1_lineUp_12 ?_
  refine fm_ist6 rfl dX1_lineUp_13 ?_
  refine fm_ild6 dX1_lineUp_15 ?_
  refine fm_ild2 dX1_lineUp_17 ?_
  refine fm_icmp_ge (⟨by omega, by omega⟩) (⟨by omega, by omega⟩) 105 dX1_lineUp_18 (by decide) (fun h18 => ?_) (fun h18 => ?_)
  · refine fm_vretN dX1_lineUp_105 rfl ⟨fun k q h1 h2 => q6.1 k q h1, q6.2, fun k hk => by omega⟩
  · exact l_lineUp ha hb na nb ma mb N M (by omega) (by omega) (N + M) 0 0 s6 (by omega) (by omega) (by omega) (fun k q h1 h2 => q6.1 k q h1) q6.2 (fun k hk => lpt_of hk)
end
