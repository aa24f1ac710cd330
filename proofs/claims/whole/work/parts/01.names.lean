-- names, field tables: begun from the printed texts SKELETON (part A) and NAMES.whole (starting texts)
/-- a private method of a class that the tables say can be made, by its rows of tables_1 -/
def lw_okq (q : MethodName × Nat) : Prop := (q.1.cls ≠ "java/lang/invoke/MethodHandle" ∧ q.1.cls ≠ "java/lang/invoke/VarHandle") ∧ Cond.instantiable q.1.cls q.2 ∈ tables_1 ∧ Cond.privateMethod q.1 ∈ tables_1 ∧ Cond.instanceMethod q.1 ∈ tables_1
theorem lw_p0 : lw_okq (⟨"DoorPost$Family", "name", "(III)V"⟩, 16) := ⟨⟨by decide +kernel, by decide +kernel⟩, List.mem_of_getElem? (i := 79) (by decide +kernel), List.mem_of_getElem? (i := 346) (by decide +kernel), List.mem_of_getElem? (i := 347) (by decide +kernel)⟩
theorem lw_p1 : lw_okq (⟨"DoorPost$Family", "grow", "([IIII[I)V"⟩, 16) := ⟨⟨by decide +kernel, by decide +kernel⟩, List.mem_of_getElem? (i := 79) (by decide +kernel), List.mem_of_getElem? (i := 350) (by decide +kernel), List.mem_of_getElem? (i := 351) (by decide +kernel)⟩
theorem lw_p2 : lw_okq (⟨"DoorPost$Law", "workOut", "([I)I"⟩, 6) := ⟨⟨by decide +kernel, by decide +kernel⟩, List.mem_of_getElem? (i := 28) (by decide +kernel), List.mem_of_getElem? (i := 358) (by decide +kernel), List.mem_of_getElem? (i := 359) (by decide +kernel)⟩
theorem lw_p3 : lw_okq (⟨"DoorPost$Law", "pop", "()I"⟩, 6) := ⟨⟨by decide +kernel, by decide +kernel⟩, List.mem_of_getElem? (i := 28) (by decide +kernel), List.mem_of_getElem? (i := 362) (by decide +kernel), List.mem_of_getElem? (i := 363) (by decide +kernel)⟩
theorem lw_p4 : lw_okq (⟨"DoorPost$Law", "takeStep", "(II[I)V"⟩, 6) := ⟨⟨by decide +kernel, by decide +kernel⟩, List.mem_of_getElem? (i := 28) (by decide +kernel), List.mem_of_getElem? (i := 366) (by decide +kernel), List.mem_of_getElem? (i := 367) (by decide +kernel)⟩
theorem lw_p5 : lw_okq (⟨"DoorPost$Law", "push", "(I)V"⟩, 6) := ⟨⟨by decide +kernel, by decide +kernel⟩, List.mem_of_getElem? (i := 28) (by decide +kernel), List.mem_of_getElem? (i := 370) (by decide +kernel), List.mem_of_getElem? (i := 371) (by decide +kernel)⟩
theorem lw_p6 : lw_okq (⟨"DoorPost$Reader", "readLine", "()Z"⟩, 6) := ⟨⟨by decide +kernel, by decide +kernel⟩, List.mem_of_getElem? (i := 54) (by decide +kernel), List.mem_of_getElem? (i := 430) (by decide +kernel), List.mem_of_getElem? (i := 431) (by decide +kernel)⟩
theorem lw_p7 : lw_okq (⟨"DoorPost$Reader", "readJoined", "(II)Z"⟩, 6) := ⟨⟨by decide +kernel, by decide +kernel⟩, List.mem_of_getElem? (i := 54) (by decide +kernel), List.mem_of_getElem? (i := 434) (by decide +kernel), List.mem_of_getElem? (i := 435) (by decide +kernel)⟩
theorem lw_p8 : lw_okq (⟨"DoorPost$Reader", "readTighter", "(II)Z"⟩, 6) := ⟨⟨by decide +kernel, by decide +kernel⟩, List.mem_of_getElem? (i := 54) (by decide +kernel), List.mem_of_getElem? (i := 438) (by decide +kernel), List.mem_of_getElem? (i := 439) (by decide +kernel)⟩
theorem lw_p9 : lw_okq (⟨"DoorPost$Reader", "readOperand", "(I)Z"⟩, 6) := ⟨⟨by decide +kernel, by decide +kernel⟩, List.mem_of_getElem? (i := 54) (by decide +kernel), List.mem_of_getElem? (i := 442) (by decide +kernel), List.mem_of_getElem? (i := 443) (by decide +kernel)⟩
theorem lw_p10 : lw_okq (⟨"DoorPost$Reader", "seen", "()I"⟩, 6) := ⟨⟨by decide +kernel, by decide +kernel⟩, List.mem_of_getElem? (i := 54) (by decide +kernel), List.mem_of_getElem? (i := 446) (by decide +kernel), List.mem_of_getElem? (i := 447) (by decide +kernel)⟩
theorem lw_p11 : lw_okq (⟨"DoorPost$Reader", "readOpened", "(II)Z"⟩, 6) := ⟨⟨by decide +kernel, by decide +kernel⟩, List.mem_of_getElem? (i := 54) (by decide +kernel), List.mem_of_getElem? (i := 450) (by decide +kernel), List.mem_of_getElem? (i := 451) (by decide +kernel)⟩
theorem lw_p12 : lw_okq (⟨"DoorPost$Reader", "skip", "(I)Z"⟩, 6) := ⟨⟨by decide +kernel, by decide +kernel⟩, List.mem_of_getElem? (i := 54) (by decide +kernel), List.mem_of_getElem? (i := 454) (by decide +kernel), List.mem_of_getElem? (i := 455) (by decide +kernel)⟩
theorem lw_p13 : lw_okq (⟨"DoorPost$Reader", "write", "(II)V"⟩, 6) := ⟨⟨by decide +kernel, by decide +kernel⟩, List.mem_of_getElem? (i := 54) (by decide +kernel), List.mem_of_getElem? (i := 458) (by decide +kernel), List.mem_of_getElem? (i := 459) (by decide +kernel)⟩
theorem lw_p14 : lw_okq (⟨"DoorPost$Reader", "readNumber", "()V"⟩, 6) := ⟨⟨by decide +kernel, by decide +kernel⟩, List.mem_of_getElem? (i := 54) (by decide +kernel), List.mem_of_getElem? (i := 465) (by decide +kernel), List.mem_of_getElem? (i := 466) (by decide +kernel)⟩
theorem lw_p15 : lw_okq (⟨"DoorPost", "markFromRow", "(II)Z"⟩, 9) := ⟨⟨by decide +kernel, by decide +kernel⟩, List.mem_of_getElem? (i := 20) (by decide +kernel), List.mem_of_getElem? (i := 623) (by decide +kernel), List.mem_of_getElem? (i := 624) (by decide +kernel)⟩
def lw_privs_1 : List (MethodName × Nat) := [(⟨"DoorPost$Family", "name", "(III)V"⟩, 16), (⟨"DoorPost$Family", "grow", "([IIII[I)V"⟩, 16), (⟨"DoorPost$Law", "workOut", "([I)I"⟩, 6), (⟨"DoorPost$Law", "pop", "()I"⟩, 6), (⟨"DoorPost$Law", "takeStep", "(II[I)V"⟩, 6), (⟨"DoorPost$Law", "push", "(I)V"⟩, 6), (⟨"DoorPost$Reader", "readLine", "()Z"⟩, 6), (⟨"DoorPost$Reader", "readJoined", "(II)Z"⟩, 6), (⟨"DoorPost$Reader", "readTighter", "(II)Z"⟩, 6), (⟨"DoorPost$Reader", "readOperand", "(I)Z"⟩, 6), (⟨"DoorPost$Reader", "seen", "()I"⟩, 6), (⟨"DoorPost$Reader", "readOpened", "(II)Z"⟩, 6), (⟨"DoorPost$Reader", "skip", "(I)Z"⟩, 6), (⟨"DoorPost$Reader", "write", "(II)V"⟩, 6), (⟨"DoorPost$Reader", "readNumber", "()V"⟩, 6), (⟨"DoorPost", "markFromRow", "(II)Z"⟩, 9)]
theorem lw_r1 : ∀ q ∈ lw_privs_1, lw_okq q := List.forall_mem_cons.mpr ⟨lw_p0, List.forall_mem_cons.mpr ⟨lw_p1, List.forall_mem_cons.mpr ⟨lw_p2, List.forall_mem_cons.mpr ⟨lw_p3, List.forall_mem_cons.mpr ⟨lw_p4, List.forall_mem_cons.mpr ⟨lw_p5, List.forall_mem_cons.mpr ⟨lw_p6, List.forall_mem_cons.mpr ⟨lw_p7, List.forall_mem_cons.mpr ⟨lw_p8, List.forall_mem_cons.mpr ⟨lw_p9, List.forall_mem_cons.mpr ⟨lw_p10, List.forall_mem_cons.mpr ⟨lw_p11, List.forall_mem_cons.mpr ⟨lw_p12, List.forall_mem_cons.mpr ⟨lw_p13, List.forall_mem_cons.mpr ⟨lw_p14, List.forall_mem_cons.mpr ⟨lw_p15, fun _ h => absurd h List.not_mem_nil⟩⟩⟩⟩⟩⟩⟩⟩⟩⟩⟩⟩⟩⟩⟩⟩
theorem lw_p16 : lw_okq (⟨"DoorPost$Marks", "isCovered", "(I)Z"⟩, 7) := ⟨⟨by decide +kernel, by decide +kernel⟩, List.mem_of_getElem? (i := 137) (by decide +kernel), List.mem_of_getElem? (i := 649) (by decide +kernel), List.mem_of_getElem? (i := 650) (by decide +kernel)⟩
theorem lw_p17 : lw_okq (⟨"DoorPost", "isMendable", "(III)Z"⟩, 9) := ⟨⟨by decide +kernel, by decide +kernel⟩, List.mem_of_getElem? (i := 20) (by decide +kernel), List.mem_of_getElem? (i := 693) (by decide +kernel), List.mem_of_getElem? (i := 694) (by decide +kernel)⟩
theorem lw_p18 : lw_okq (⟨"DoorPost$Changes", "valueOf", "(II)I"⟩, 8) := ⟨⟨by decide +kernel, by decide +kernel⟩, List.mem_of_getElem? (i := 212) (by decide +kernel), List.mem_of_getElem? (i := 701) (by decide +kernel), List.mem_of_getElem? (i := 702) (by decide +kernel)⟩
theorem lw_p19 : lw_okq (⟨"DoorPost$Changes", "become", "(III)V"⟩, 8) := ⟨⟨by decide +kernel, by decide +kernel⟩, List.mem_of_getElem? (i := 212) (by decide +kernel), List.mem_of_getElem? (i := 709) (by decide +kernel), List.mem_of_getElem? (i := 710) (by decide +kernel)⟩
theorem lw_p20 : lw_okq (⟨"DoorPost$Changes", "remember", "(IIII)V"⟩, 8) := ⟨⟨by decide +kernel, by decide +kernel⟩, List.mem_of_getElem? (i := 212) (by decide +kernel), List.mem_of_getElem? (i := 729) (by decide +kernel), List.mem_of_getElem? (i := 730) (by decide +kernel)⟩
theorem lw_p21 : lw_okq (⟨"DoorPost$Changes", "dropOldest", "()V"⟩, 8) := ⟨⟨by decide +kernel, by decide +kernel⟩, List.mem_of_getElem? (i := 212) (by decide +kernel), List.mem_of_getElem? (i := 733) (by decide +kernel), List.mem_of_getElem? (i := 734) (by decide +kernel)⟩
theorem lw_p22 : lw_okq (⟨"DoorPost", "isMarkAndChild", "(I)Z"⟩, 9) := ⟨⟨by decide +kernel, by decide +kernel⟩, List.mem_of_getElem? (i := 20) (by decide +kernel), List.mem_of_getElem? (i := 744) (by decide +kernel), List.mem_of_getElem? (i := 745) (by decide +kernel)⟩
theorem lw_p23 : lw_okq (⟨"DoorPost$Guesses", "find", "(IIII)Z"⟩, 10) := ⟨⟨by decide +kernel, by decide +kernel⟩, List.mem_of_getElem? (i := 165) (by decide +kernel), List.mem_of_getElem? (i := 777) (by decide +kernel), List.mem_of_getElem? (i := 778) (by decide +kernel)⟩
theorem lw_p24 : lw_okq (⟨"DoorPost$Guesses", "weight", "(II)I"⟩, 10) := ⟨⟨by decide +kernel, by decide +kernel⟩, List.mem_of_getElem? (i := 165) (by decide +kernel), List.mem_of_getElem? (i := 805) (by decide +kernel), List.mem_of_getElem? (i := 806) (by decide +kernel)⟩
theorem lw_p25 : lw_okq (⟨"DoorPost$Guesses", "foundDistanceBy", "(II)I"⟩, 10) := ⟨⟨by decide +kernel, by decide +kernel⟩, List.mem_of_getElem? (i := 165) (by decide +kernel), List.mem_of_getElem? (i := 817) (by decide +kernel), List.mem_of_getElem? (i := 818) (by decide +kernel)⟩
theorem lw_p26 : lw_okq (⟨"DoorPost$Guesses", "sumOfRow", "(II)I"⟩, 10) := ⟨⟨by decide +kernel, by decide +kernel⟩, List.mem_of_getElem? (i := 165) (by decide +kernel), List.mem_of_getElem? (i := 839) (by decide +kernel), List.mem_of_getElem? (i := 840) (by decide +kernel)⟩
theorem lw_p27 : lw_okq (⟨"DoorPost$Guesses", "isTriedBehind", "(II)Z"⟩, 10) := ⟨⟨by decide +kernel, by decide +kernel⟩, List.mem_of_getElem? (i := 165) (by decide +kernel), List.mem_of_getElem? (i := 844) (by decide +kernel), List.mem_of_getElem? (i := 845) (by decide +kernel)⟩
theorem lw_p28 : lw_okq (⟨"DoorPost$Marks", "isTurned", "(II)Z"⟩, 7) := ⟨⟨by decide +kernel, by decide +kernel⟩, List.mem_of_getElem? (i := 137) (by decide +kernel), List.mem_of_getElem? (i := 865) (by decide +kernel), List.mem_of_getElem? (i := 866) (by decide +kernel)⟩
theorem lw_p29 : lw_okq (⟨"DoorPost$Marks", "isToldOf", "(II)Z"⟩, 7) := ⟨⟨by decide +kernel, by decide +kernel⟩, List.mem_of_getElem? (i := 137) (by decide +kernel), List.mem_of_getElem? (i := 869) (by decide +kernel), List.mem_of_getElem? (i := 870) (by decide +kernel)⟩
theorem lw_p30 : lw_okq (⟨"DoorPost$Outlook", "isWholeYear", "(II)Z"⟩, 1) := ⟨⟨by decide +kernel, by decide +kernel⟩, List.mem_of_getElem? (i := 202) (by decide +kernel), List.mem_of_getElem? (i := 922) (by decide +kernel), List.mem_of_getElem? (i := 923) (by decide +kernel)⟩
theorem lw_p31 : lw_okq (⟨"DoorPost$Outlook", "isHigher", "(III)Z"⟩, 1) := ⟨⟨by decide +kernel, by decide +kernel⟩, List.mem_of_getElem? (i := 202) (by decide +kernel), List.mem_of_getElem? (i := 965) (by decide +kernel), List.mem_of_getElem? (i := 966) (by decide +kernel)⟩
def lw_privs_2 : List (MethodName × Nat) := [(⟨"DoorPost$Marks", "isCovered", "(I)Z"⟩, 7), (⟨"DoorPost", "isMendable", "(III)Z"⟩, 9), (⟨"DoorPost$Changes", "valueOf", "(II)I"⟩, 8), (⟨"DoorPost$Changes", "become", "(III)V"⟩, 8), (⟨"DoorPost$Changes", "remember", "(IIII)V"⟩, 8), (⟨"DoorPost$Changes", "dropOldest", "()V"⟩, 8), (⟨"DoorPost", "isMarkAndChild", "(I)Z"⟩, 9), (⟨"DoorPost$Guesses", "find", "(IIII)Z"⟩, 10), (⟨"DoorPost$Guesses", "weight", "(II)I"⟩, 10), (⟨"DoorPost$Guesses", "foundDistanceBy", "(II)I"⟩, 10), (⟨"DoorPost$Guesses", "sumOfRow", "(II)I"⟩, 10), (⟨"DoorPost$Guesses", "isTriedBehind", "(II)Z"⟩, 10), (⟨"DoorPost$Marks", "isTurned", "(II)Z"⟩, 7), (⟨"DoorPost$Marks", "isToldOf", "(II)Z"⟩, 7), (⟨"DoorPost$Outlook", "isWholeYear", "(II)Z"⟩, 1), (⟨"DoorPost$Outlook", "isHigher", "(III)Z"⟩, 1)]
theorem lw_r2 : ∀ q ∈ lw_privs_2, lw_okq q := List.forall_mem_cons.mpr ⟨lw_p16, List.forall_mem_cons.mpr ⟨lw_p17, List.forall_mem_cons.mpr ⟨lw_p18, List.forall_mem_cons.mpr ⟨lw_p19, List.forall_mem_cons.mpr ⟨lw_p20, List.forall_mem_cons.mpr ⟨lw_p21, List.forall_mem_cons.mpr ⟨lw_p22, List.forall_mem_cons.mpr ⟨lw_p23, List.forall_mem_cons.mpr ⟨lw_p24, List.forall_mem_cons.mpr ⟨lw_p25, List.forall_mem_cons.mpr ⟨lw_p26, List.forall_mem_cons.mpr ⟨lw_p27, List.forall_mem_cons.mpr ⟨lw_p28, List.forall_mem_cons.mpr ⟨lw_p29, List.forall_mem_cons.mpr ⟨lw_p30, List.forall_mem_cons.mpr ⟨lw_p31, fun _ h => absurd h List.not_mem_nil⟩⟩⟩⟩⟩⟩⟩⟩⟩⟩⟩⟩⟩⟩⟩⟩
theorem lw_p32 : lw_okq (⟨"DoorPost$Acts", "run", "(IIII)I"⟩, 6) := ⟨⟨by decide +kernel, by decide +kernel⟩, List.mem_of_getElem? (i := 243) (by decide +kernel), List.mem_of_getElem? (i := 1048) (by decide +kernel), List.mem_of_getElem? (i := 1049) (by decide +kernel)⟩
theorem lw_p33 : lw_okq (⟨"DoorPost$Acts", "note", "(I)V"⟩, 6) := ⟨⟨by decide +kernel, by decide +kernel⟩, List.mem_of_getElem? (i := 243) (by decide +kernel), List.mem_of_getElem? (i := 1063) (by decide +kernel), List.mem_of_getElem? (i := 1064) (by decide +kernel)⟩
theorem lw_p34 : lw_okq (⟨"DoorPost$Acts", "perform", "(IIII)I"⟩, 6) := ⟨⟨by decide +kernel, by decide +kernel⟩, List.mem_of_getElem? (i := 243) (by decide +kernel), List.mem_of_getElem? (i := 1067) (by decide +kernel), List.mem_of_getElem? (i := 1068) (by decide +kernel)⟩
theorem lw_p35 : lw_okq (⟨"DoorPost", "refusalAt", "(II)I"⟩, 9) := ⟨⟨by decide +kernel, by decide +kernel⟩, List.mem_of_getElem? (i := 20) (by decide +kernel), List.mem_of_getElem? (i := 1104) (by decide +kernel), List.mem_of_getElem? (i := 1105) (by decide +kernel)⟩
theorem lw_p36 : lw_okq (⟨"DoorPostModel", "tellsWant", "(II)V"⟩, 48) := ⟨⟨by decide +kernel, by decide +kernel⟩, List.mem_of_getElem? (i := 1157) (by decide +kernel), List.mem_of_getElem? (i := 1347) (by decide +kernel), List.mem_of_getElem? (i := 1348) (by decide +kernel)⟩
theorem lw_p37 : lw_okq (⟨"DoorPostModel", "wantOf", "(I)I"⟩, 48) := ⟨⟨by decide +kernel, by decide +kernel⟩, List.mem_of_getElem? (i := 1157) (by decide +kernel), List.mem_of_getElem? (i := 1355) (by decide +kernel), List.mem_of_getElem? (i := 1356) (by decide +kernel)⟩
theorem lw_p38 : lw_okq (⟨"DoorPostModel", "workOut", "(II)I"⟩, 48) := ⟨⟨by decide +kernel, by decide +kernel⟩, List.mem_of_getElem? (i := 1157) (by decide +kernel), List.mem_of_getElem? (i := 1368) (by decide +kernel), List.mem_of_getElem? (i := 1369) (by decide +kernel)⟩
theorem lw_p39 : lw_okq (⟨"DoorPostModel", "either", "()I"⟩, 48) := ⟨⟨by decide +kernel, by decide +kernel⟩, List.mem_of_getElem? (i := 1157) (by decide +kernel), List.mem_of_getElem? (i := 1372) (by decide +kernel), List.mem_of_getElem? (i := 1373) (by decide +kernel)⟩
theorem lw_p40 : lw_okq (⟨"DoorPostModel", "both", "()I"⟩, 48) := ⟨⟨by decide +kernel, by decide +kernel⟩, List.mem_of_getElem? (i := 1157) (by decide +kernel), List.mem_of_getElem? (i := 1376) (by decide +kernel), List.mem_of_getElem? (i := 1377) (by decide +kernel)⟩
theorem lw_p41 : lw_okq (⟨"DoorPostModel", "compared", "()I"⟩, 48) := ⟨⟨by decide +kernel, by decide +kernel⟩, List.mem_of_getElem? (i := 1157) (by decide +kernel), List.mem_of_getElem? (i := 1380) (by decide +kernel), List.mem_of_getElem? (i := 1381) (by decide +kernel)⟩
theorem lw_p42 : lw_okq (⟨"DoorPostModel", "sums", "()I"⟩, 48) := ⟨⟨by decide +kernel, by decide +kernel⟩, List.mem_of_getElem? (i := 1157) (by decide +kernel), List.mem_of_getElem? (i := 1384) (by decide +kernel), List.mem_of_getElem? (i := 1385) (by decide +kernel)⟩
theorem lw_p43 : lw_okq (⟨"DoorPostModel", "product", "()I"⟩, 48) := ⟨⟨by decide +kernel, by decide +kernel⟩, List.mem_of_getElem? (i := 1157) (by decide +kernel), List.mem_of_getElem? (i := 1388) (by decide +kernel), List.mem_of_getElem? (i := 1389) (by decide +kernel)⟩
theorem lw_p44 : lw_okq (⟨"DoorPostModel", "one", "()I"⟩, 48) := ⟨⟨by decide +kernel, by decide +kernel⟩, List.mem_of_getElem? (i := 1157) (by decide +kernel), List.mem_of_getElem? (i := 1392) (by decide +kernel), List.mem_of_getElem? (i := 1393) (by decide +kernel)⟩
theorem lw_p45 : lw_okq (⟨"DoorPostModel", "byteAt", "()I"⟩, 48) := ⟨⟨by decide +kernel, by decide +kernel⟩, List.mem_of_getElem? (i := 1157) (by decide +kernel), List.mem_of_getElem? (i := 1396) (by decide +kernel), List.mem_of_getElem? (i := 1397) (by decide +kernel)⟩
theorem lw_p46 : lw_okq (⟨"DoorPostModel", "wrong", "()I"⟩, 48) := ⟨⟨by decide +kernel, by decide +kernel⟩, List.mem_of_getElem? (i := 1157) (by decide +kernel), List.mem_of_getElem? (i := 1400) (by decide +kernel), List.mem_of_getElem? (i := 1401) (by decide +kernel)⟩
theorem lw_p47 : lw_okq (⟨"DoorPostModel", "takes", "(I)Z"⟩, 48) := ⟨⟨by decide +kernel, by decide +kernel⟩, List.mem_of_getElem? (i := 1157) (by decide +kernel), List.mem_of_getElem? (i := 1404) (by decide +kernel), List.mem_of_getElem? (i := 1405) (by decide +kernel)⟩
def lw_privs_3 : List (MethodName × Nat) := [(⟨"DoorPost$Acts", "run", "(IIII)I"⟩, 6), (⟨"DoorPost$Acts", "note", "(I)V"⟩, 6), (⟨"DoorPost$Acts", "perform", "(IIII)I"⟩, 6), (⟨"DoorPost", "refusalAt", "(II)I"⟩, 9), (⟨"DoorPostModel", "tellsWant", "(II)V"⟩, 48), (⟨"DoorPostModel", "wantOf", "(I)I"⟩, 48), (⟨"DoorPostModel", "workOut", "(II)I"⟩, 48), (⟨"DoorPostModel", "either", "()I"⟩, 48), (⟨"DoorPostModel", "both", "()I"⟩, 48), (⟨"DoorPostModel", "compared", "()I"⟩, 48), (⟨"DoorPostModel", "sums", "()I"⟩, 48), (⟨"DoorPostModel", "product", "()I"⟩, 48), (⟨"DoorPostModel", "one", "()I"⟩, 48), (⟨"DoorPostModel", "byteAt", "()I"⟩, 48), (⟨"DoorPostModel", "wrong", "()I"⟩, 48), (⟨"DoorPostModel", "takes", "(I)Z"⟩, 48)]
theorem lw_r3 : ∀ q ∈ lw_privs_3, lw_okq q := List.forall_mem_cons.mpr ⟨lw_p32, List.forall_mem_cons.mpr ⟨lw_p33, List.forall_mem_cons.mpr ⟨lw_p34, List.forall_mem_cons.mpr ⟨lw_p35, List.forall_mem_cons.mpr ⟨lw_p36, List.forall_mem_cons.mpr ⟨lw_p37, List.forall_mem_cons.mpr ⟨lw_p38, List.forall_mem_cons.mpr ⟨lw_p39, List.forall_mem_cons.mpr ⟨lw_p40, List.forall_mem_cons.mpr ⟨lw_p41, List.forall_mem_cons.mpr ⟨lw_p42, List.forall_mem_cons.mpr ⟨lw_p43, List.forall_mem_cons.mpr ⟨lw_p44, List.forall_mem_cons.mpr ⟨lw_p45, List.forall_mem_cons.mpr ⟨lw_p46, List.forall_mem_cons.mpr ⟨lw_p47, fun _ h => absurd h List.not_mem_nil⟩⟩⟩⟩⟩⟩⟩⟩⟩⟩⟩⟩⟩⟩⟩⟩
theorem lw_p48 : lw_okq (⟨"DoorPostModel", "isChild", "(I)Z"⟩, 48) := ⟨⟨by decide +kernel, by decide +kernel⟩, List.mem_of_getElem? (i := 1157) (by decide +kernel), List.mem_of_getElem? (i := 1415) (by decide +kernel), List.mem_of_getElem? (i := 1416) (by decide +kernel)⟩
theorem lw_p49 : lw_okq (⟨"DoorPostModel", "heightOf", "(II)I"⟩, 48) := ⟨⟨by decide +kernel, by decide +kernel⟩, List.mem_of_getElem? (i := 1157) (by decide +kernel), List.mem_of_getElem? (i := 1419) (by decide +kernel), List.mem_of_getElem? (i := 1420) (by decide +kernel)⟩
theorem lw_p50 : lw_okq (⟨"DoorPostModel", "allGrow", "()V"⟩, 48) := ⟨⟨by decide +kernel, by decide +kernel⟩, List.mem_of_getElem? (i := 1157) (by decide +kernel), List.mem_of_getElem? (i := 1423) (by decide +kernel), List.mem_of_getElem? (i := 1424) (by decide +kernel)⟩
theorem lw_p51 : lw_okq (⟨"DoorPostModel", "growsUp", "(IIIZ)V"⟩, 48) := ⟨⟨by decide +kernel, by decide +kernel⟩, List.mem_of_getElem? (i := 1157) (by decide +kernel), List.mem_of_getElem? (i := 1427) (by decide +kernel), List.mem_of_getElem? (i := 1428) (by decide +kernel)⟩
theorem lw_p52 : lw_okq (⟨"DoorPostModel", "growsBy", "(IIIIII)I"⟩, 48) := ⟨⟨by decide +kernel, by decide +kernel⟩, List.mem_of_getElem? (i := 1157) (by decide +kernel), List.mem_of_getElem? (i := 1431) (by decide +kernel), List.mem_of_getElem? (i := 1432) (by decide +kernel)⟩
theorem lw_p53 : lw_okq (⟨"DoorPostModel", "adds", "(IIII)V"⟩, 48) := ⟨⟨by decide +kernel, by decide +kernel⟩, List.mem_of_getElem? (i := 1157) (by decide +kernel), List.mem_of_getElem? (i := 1446) (by decide +kernel), List.mem_of_getElem? (i := 1447) (by decide +kernel)⟩
theorem lw_p54 : lw_okq (⟨"DoorPostModel", "isCovered", "(I)Z"⟩, 48) := ⟨⟨by decide +kernel, by decide +kernel⟩, List.mem_of_getElem? (i := 1157) (by decide +kernel), List.mem_of_getElem? (i := 1463) (by decide +kernel), List.mem_of_getElem? (i := 1464) (by decide +kernel)⟩
theorem lw_p55 : lw_okq (⟨"DoorPostModel", "isMark", "(I)Z"⟩, 48) := ⟨⟨by decide +kernel, by decide +kernel⟩, List.mem_of_getElem? (i := 1157) (by decide +kernel), List.mem_of_getElem? (i := 1471) (by decide +kernel), List.mem_of_getElem? (i := 1472) (by decide +kernel)⟩
theorem lw_p56 : lw_okq (⟨"DoorPostModel", "ofMark", "(II)I"⟩, 48) := ⟨⟨by decide +kernel, by decide +kernel⟩, List.mem_of_getElem? (i := 1157) (by decide +kernel), List.mem_of_getElem? (i := 1475) (by decide +kernel), List.mem_of_getElem? (i := 1476) (by decide +kernel)⟩
theorem lw_p57 : lw_okq (⟨"DoorPostModel", "ofChild", "(II)I"⟩, 48) := ⟨⟨by decide +kernel, by decide +kernel⟩, List.mem_of_getElem? (i := 1157) (by decide +kernel), List.mem_of_getElem? (i := 1482) (by decide +kernel), List.mem_of_getElem? (i := 1483) (by decide +kernel)⟩
theorem lw_p58 : lw_okq (⟨"DoorPostModel", "becomes", "(II)I"⟩, 48) := ⟨⟨by decide +kernel, by decide +kernel⟩, List.mem_of_getElem? (i := 1157) (by decide +kernel), List.mem_of_getElem? (i := 1490) (by decide +kernel), List.mem_of_getElem? (i := 1491) (by decide +kernel)⟩
theorem lw_p59 : lw_okq (⟨"DoorPostModel", "isMc", "(I)Z"⟩, 48) := ⟨⟨by decide +kernel, by decide +kernel⟩, List.mem_of_getElem? (i := 1157) (by decide +kernel), List.mem_of_getElem? (i := 1498) (by decide +kernel), List.mem_of_getElem? (i := 1499) (by decide +kernel)⟩
theorem lw_p60 : lw_okq (⟨"DoorPostModel", "offBy", "(IIII)I"⟩, 48) := ⟨⟨by decide +kernel, by decide +kernel⟩, List.mem_of_getElem? (i := 1157) (by decide +kernel), List.mem_of_getElem? (i := 1502) (by decide +kernel), List.mem_of_getElem? (i := 1503) (by decide +kernel)⟩
theorem lw_p61 : lw_okq (⟨"DoorPostModel", "findWhose", "(I)V"⟩, 48) := ⟨⟨by decide +kernel, by decide +kernel⟩, List.mem_of_getElem? (i := 1157) (by decide +kernel), List.mem_of_getElem? (i := 1517) (by decide +kernel), List.mem_of_getElem? (i := 1518) (by decide +kernel)⟩
theorem lw_p62 : lw_okq (⟨"DoorPostModel", "mayBe", "(II)Z"⟩, 48) := ⟨⟨by decide +kernel, by decide +kernel⟩, List.mem_of_getElem? (i := 1157) (by decide +kernel), List.mem_of_getElem? (i := 1521) (by decide +kernel), List.mem_of_getElem? (i := 1522) (by decide +kernel)⟩
theorem lw_p63 : lw_okq (⟨"DoorPostModel", "offOf", "(III)I"⟩, 48) := ⟨⟨by decide +kernel, by decide +kernel⟩, List.mem_of_getElem? (i := 1157) (by decide +kernel), List.mem_of_getElem? (i := 1525) (by decide +kernel), List.mem_of_getElem? (i := 1526) (by decide +kernel)⟩
def lw_privs_4 : List (MethodName × Nat) := [(⟨"DoorPostModel", "isChild", "(I)Z"⟩, 48), (⟨"DoorPostModel", "heightOf", "(II)I"⟩, 48), (⟨"DoorPostModel", "allGrow", "()V"⟩, 48), (⟨"DoorPostModel", "growsUp", "(IIIZ)V"⟩, 48), (⟨"DoorPostModel", "growsBy", "(IIIIII)I"⟩, 48), (⟨"DoorPostModel", "adds", "(IIII)V"⟩, 48), (⟨"DoorPostModel", "isCovered", "(I)Z"⟩, 48), (⟨"DoorPostModel", "isMark", "(I)Z"⟩, 48), (⟨"DoorPostModel", "ofMark", "(II)I"⟩, 48), (⟨"DoorPostModel", "ofChild", "(II)I"⟩, 48), (⟨"DoorPostModel", "becomes", "(II)I"⟩, 48), (⟨"DoorPostModel", "isMc", "(I)Z"⟩, 48), (⟨"DoorPostModel", "offBy", "(IIII)I"⟩, 48), (⟨"DoorPostModel", "findWhose", "(I)V"⟩, 48), (⟨"DoorPostModel", "mayBe", "(II)Z"⟩, 48), (⟨"DoorPostModel", "offOf", "(III)I"⟩, 48)]
theorem lw_r4 : ∀ q ∈ lw_privs_4, lw_okq q := List.forall_mem_cons.mpr ⟨lw_p48, List.forall_mem_cons.mpr ⟨lw_p49, List.forall_mem_cons.mpr ⟨lw_p50, List.forall_mem_cons.mpr ⟨lw_p51, List.forall_mem_cons.mpr ⟨lw_p52, List.forall_mem_cons.mpr ⟨lw_p53, List.forall_mem_cons.mpr ⟨lw_p54, List.forall_mem_cons.mpr ⟨lw_p55, List.forall_mem_cons.mpr ⟨lw_p56, List.forall_mem_cons.mpr ⟨lw_p57, List.forall_mem_cons.mpr ⟨lw_p58, List.forall_mem_cons.mpr ⟨lw_p59, List.forall_mem_cons.mpr ⟨lw_p60, List.forall_mem_cons.mpr ⟨lw_p61, List.forall_mem_cons.mpr ⟨lw_p62, List.forall_mem_cons.mpr ⟨lw_p63, fun _ h => absurd h List.not_mem_nil⟩⟩⟩⟩⟩⟩⟩⟩⟩⟩⟩⟩⟩⟩⟩⟩
theorem lw_p64 : lw_okq (⟨"DoorPostModel", "goesTogether", "(IIIII)V"⟩, 48) := ⟨⟨by decide +kernel, by decide +kernel⟩, List.mem_of_getElem? (i := 1157) (by decide +kernel), List.mem_of_getElem? (i := 1541) (by decide +kernel), List.mem_of_getElem? (i := 1542) (by decide +kernel)⟩
theorem lw_p65 : lw_okq (⟨"DoorPostModel", "isTurned", "(I)Z"⟩, 48) := ⟨⟨by decide +kernel, by decide +kernel⟩, List.mem_of_getElem? (i := 1157) (by decide +kernel), List.mem_of_getElem? (i := 1549) (by decide +kernel), List.mem_of_getElem? (i := 1550) (by decide +kernel)⟩
theorem lw_p66 : lw_okq (⟨"DoorPostModel", "endOf", "(I)I"⟩, 48) := ⟨⟨by decide +kernel, by decide +kernel⟩, List.mem_of_getElem? (i := 1157) (by decide +kernel), List.mem_of_getElem? (i := 1561) (by decide +kernel), List.mem_of_getElem? (i := 1562) (by decide +kernel)⟩
theorem lw_p67 : lw_okq (⟨"DoorPostModel", "twiceOf", "(I)I"⟩, 48) := ⟨⟨by decide +kernel, by decide +kernel⟩, List.mem_of_getElem? (i := 1157) (by decide +kernel), List.mem_of_getElem? (i := 1565) (by decide +kernel), List.mem_of_getElem? (i := 1566) (by decide +kernel)⟩
theorem lw_p68 : lw_okq (⟨"DoorPostModel", "byParents", "(I)I"⟩, 48) := ⟨⟨by decide +kernel, by decide +kernel⟩, List.mem_of_getElem? (i := 1157) (by decide +kernel), List.mem_of_getElem? (i := 1569) (by decide +kernel), List.mem_of_getElem? (i := 1570) (by decide +kernel)⟩
theorem lw_p69 : lw_okq (⟨"DoorPostModel", "growsOther", "(I)V"⟩, 48) := ⟨⟨by decide +kernel, by decide +kernel⟩, List.mem_of_getElem? (i := 1157) (by decide +kernel), List.mem_of_getElem? (i := 1582) (by decide +kernel), List.mem_of_getElem? (i := 1583) (by decide +kernel)⟩
theorem lw_p70 : lw_okq (⟨"DoorPostModel", "lineOf", "(II)I"⟩, 48) := ⟨⟨by decide +kernel, by decide +kernel⟩, List.mem_of_getElem? (i := 1157) (by decide +kernel), List.mem_of_getElem? (i := 1586) (by decide +kernel), List.mem_of_getElem? (i := 1587) (by decide +kernel)⟩
theorem lw_p71 : lw_okq (⟨"DoorPostModel", "nearest", "(II)I"⟩, 48) := ⟨⟨by decide +kernel, by decide +kernel⟩, List.mem_of_getElem? (i := 1157) (by decide +kernel), List.mem_of_getElem? (i := 1608) (by decide +kernel), List.mem_of_getElem? (i := 1609) (by decide +kernel)⟩
theorem lw_p72 : lw_okq (⟨"DoorPostModel", "isBody", "(I)Z"⟩, 48) := ⟨⟨by decide +kernel, by decide +kernel⟩, List.mem_of_getElem? (i := 1157) (by decide +kernel), List.mem_of_getElem? (i := 1621) (by decide +kernel), List.mem_of_getElem? (i := 1622) (by decide +kernel)⟩
theorem lw_p73 : lw_okq (⟨"DoorPostModel", "growsAs", "(II)I"⟩, 48) := ⟨⟨by decide +kernel, by decide +kernel⟩, List.mem_of_getElem? (i := 1157) (by decide +kernel), List.mem_of_getElem? (i := 1625) (by decide +kernel), List.mem_of_getElem? (i := 1626) (by decide +kernel)⟩
theorem lw_p74 : lw_okq (⟨"DoorPostModel", "begins", "(I)V"⟩, 48) := ⟨⟨by decide +kernel, by decide +kernel⟩, List.mem_of_getElem? (i := 1157) (by decide +kernel), List.mem_of_getElem? (i := 1629) (by decide +kernel), List.mem_of_getElem? (i := 1630) (by decide +kernel)⟩
theorem lw_p75 : lw_okq (⟨"DoorPostModel", "standsAs", "(II)I"⟩, 48) := ⟨⟨by decide +kernel, by decide +kernel⟩, List.mem_of_getElem? (i := 1157) (by decide +kernel), List.mem_of_getElem? (i := 1633) (by decide +kernel), List.mem_of_getElem? (i := 1634) (by decide +kernel)⟩
theorem lw_p76 : lw_okq (⟨"DoorPostModel", "marksAs", "(II)I"⟩, 48) := ⟨⟨by decide +kernel, by decide +kernel⟩, List.mem_of_getElem? (i := 1157) (by decide +kernel), List.mem_of_getElem? (i := 1637) (by decide +kernel), List.mem_of_getElem? (i := 1638) (by decide +kernel)⟩
theorem lw_p77 : lw_okq (⟨"DoorPostModel", "tellsAs", "(II)I"⟩, 48) := ⟨⟨by decide +kernel, by decide +kernel⟩, List.mem_of_getElem? (i := 1157) (by decide +kernel), List.mem_of_getElem? (i := 1641) (by decide +kernel), List.mem_of_getElem? (i := 1642) (by decide +kernel)⟩
theorem lw_p78 : lw_okq (⟨"DoorPostModel", "refusal", "(II)I"⟩, 48) := ⟨⟨by decide +kernel, by decide +kernel⟩, List.mem_of_getElem? (i := 1157) (by decide +kernel), List.mem_of_getElem? (i := 1661) (by decide +kernel), List.mem_of_getElem? (i := 1662) (by decide +kernel)⟩
theorem lw_p79 : lw_okq (⟨"DoorPostModel", "kindOf", "(I)I"⟩, 48) := ⟨⟨by decide +kernel, by decide +kernel⟩, List.mem_of_getElem? (i := 1157) (by decide +kernel), List.mem_of_getElem? (i := 1681) (by decide +kernel), List.mem_of_getElem? (i := 1682) (by decide +kernel)⟩
def lw_privs_5 : List (MethodName × Nat) := [(⟨"DoorPostModel", "goesTogether", "(IIIII)V"⟩, 48), (⟨"DoorPostModel", "isTurned", "(I)Z"⟩, 48), (⟨"DoorPostModel", "endOf", "(I)I"⟩, 48), (⟨"DoorPostModel", "twiceOf", "(I)I"⟩, 48), (⟨"DoorPostModel", "byParents", "(I)I"⟩, 48), (⟨"DoorPostModel", "growsOther", "(I)V"⟩, 48), (⟨"DoorPostModel", "lineOf", "(II)I"⟩, 48), (⟨"DoorPostModel", "nearest", "(II)I"⟩, 48), (⟨"DoorPostModel", "isBody", "(I)Z"⟩, 48), (⟨"DoorPostModel", "growsAs", "(II)I"⟩, 48), (⟨"DoorPostModel", "begins", "(I)V"⟩, 48), (⟨"DoorPostModel", "standsAs", "(II)I"⟩, 48), (⟨"DoorPostModel", "marksAs", "(II)I"⟩, 48), (⟨"DoorPostModel", "tellsAs", "(II)I"⟩, 48), (⟨"DoorPostModel", "refusal", "(II)I"⟩, 48), (⟨"DoorPostModel", "kindOf", "(I)I"⟩, 48)]
theorem lw_r5 : ∀ q ∈ lw_privs_5, lw_okq q := List.forall_mem_cons.mpr ⟨lw_p64, List.forall_mem_cons.mpr ⟨lw_p65, List.forall_mem_cons.mpr ⟨lw_p66, List.forall_mem_cons.mpr ⟨lw_p67, List.forall_mem_cons.mpr ⟨lw_p68, List.forall_mem_cons.mpr ⟨lw_p69, List.forall_mem_cons.mpr ⟨lw_p70, List.forall_mem_cons.mpr ⟨lw_p71, List.forall_mem_cons.mpr ⟨lw_p72, List.forall_mem_cons.mpr ⟨lw_p73, List.forall_mem_cons.mpr ⟨lw_p74, List.forall_mem_cons.mpr ⟨lw_p75, List.forall_mem_cons.mpr ⟨lw_p76, List.forall_mem_cons.mpr ⟨lw_p77, List.forall_mem_cons.mpr ⟨lw_p78, List.forall_mem_cons.mpr ⟨lw_p79, fun _ h => absurd h List.not_mem_nil⟩⟩⟩⟩⟩⟩⟩⟩⟩⟩⟩⟩⟩⟩⟩⟩
def lw_privs : List (MethodName × Nat) := lw_privs_1 ++ (lw_privs_2 ++ (lw_privs_3 ++ (lw_privs_4 ++ (lw_privs_5))))
def lw_tbl : List Cond := k2_sels lw_privs ++ tables_1
theorem lw_privs_ok : ∀ q ∈ lw_privs, lw_okq q := by
  show ∀ q ∈ lw_privs_1 ++ (lw_privs_2 ++ (lw_privs_3 ++ (lw_privs_4 ++ (lw_privs_5)))), lw_okq q
  exact List.forall_mem_append.mpr ⟨lw_r1, List.forall_mem_append.mpr ⟨lw_r2, List.forall_mem_append.mpr ⟨lw_r3, List.forall_mem_append.mpr ⟨lw_r4, lw_r5⟩⟩⟩⟩
def RX0 : String := "DoorPost$Acts"
def TX0 : u_T := fun k => match k with
  | 0 => ("DoorPost$Acts", "kinds", "[I", true)
  | 1 => ("DoorPost$Acts", "bodies", "I", false)
  | 2 => ("DoorPost$Acts", "ran", "[I", true)
  | 3 => ("DoorPost$Acts", "ranCount", "I", false)
  | 4 => ("DoorPost$Acts", "actor", "I", false)
  | _ => ("DoorPost$Acts", "actorKind", "I", false)
def tyX0 : Nat → FieldType := fun k => match k with
  | 0 => .array .int
  | 1 => .int
  | 2 => .array .int
  | 3 => .int
  | 4 => .int
  | _ => .int
abbrev wsX00 : List Cond := u_ws RX0 TX0 6
theorem nmX0 : ∀ a, a < 6 → ∀ b, b < 6 → a ≠ b → (TX0 a).2.1 ≠ (TX0 b).2.1 := by decide +kernel
theorem tyX0_ok : ∀ k, k < 6 → parseFieldDescriptor (TX0 k).2.2.1 = some (tyX0 k) := by decide +kernel
abbrev cX0_init : ByteArray := prog_2_method_1_code
def yX0_init : MethodName := ⟨RX0, "<init>", "()V"⟩
abbrev cX0_isKind : ByteArray := prog_2_method_2_code
def yX0_isKind : MethodName := ⟨RX0, "isKind", "(I)Z"⟩
abbrev cX0_isUnder : ByteArray := prog_2_method_3_code
def yX0_isUnder : MethodName := ⟨RX0, "isUnder", "(II)Z"⟩
abbrev cX0_size : ByteArray := prog_2_method_4_code
def yX0_size : MethodName := ⟨RX0, "size", "()I"⟩
abbrev cX0_has : ByteArray := prog_2_method_5_code
def yX0_has : MethodName := ⟨RX0, "has", "(I)Z"⟩
abbrev cX0_add : ByteArray := prog_2_method_6_code
def yX0_add : MethodName := ⟨RX0, "add", "(I)I"⟩
abbrev cX0_kindOf : ByteArray := prog_2_method_7_code
def yX0_kindOf : MethodName := ⟨RX0, "kindOf", "(I)I"⟩
abbrev cX0_ranInAll : ByteArray := prog_2_method_8_code
def yX0_ranInAll : MethodName := ⟨RX0, "ranInAll", "()I"⟩
abbrev cX0_ranAt : ByteArray := prog_2_method_9_code
def yX0_ranAt : MethodName := ⟨RX0, "ranAt", "(I)I"⟩
abbrev cX0_start : ByteArray := prog_2_method_10_code
def yX0_start : MethodName := ⟨RX0, "start", "(III)I"⟩
abbrev cX0_run : ByteArray := prog_2_method_11_code
def yX0_run : MethodName := ⟨RX0, "run", "(IIII)I"⟩
abbrev cX0_perform : ByteArray := prog_2_method_12_code
def yX0_perform : MethodName := ⟨RX0, "perform", "(IIII)I"⟩
abbrev cX0_ownerOf : ByteArray := prog_2_method_13_code
def yX0_ownerOf : MethodName := ⟨RX0, "ownerOf", "(II)I"⟩
abbrev cX0_ownBody : ByteArray := prog_2_method_14_code
def yX0_ownBody : MethodName := ⟨RX0, "ownBody", "(II)I"⟩
abbrev cX0_note : ByteArray := prog_2_method_15_code
def yX0_note : MethodName := ⟨RX0, "note", "(I)V"⟩
def RX1 : String := "DoorPost$Changes"
def TX1 : u_T := fun k => match k with
  | 0 => ("DoorPost$Changes", "family", "LDoorPost$Family;", true)
  | 1 => ("DoorPost$Changes", "marks", "LDoorPost$Marks;", true)
  | 2 => ("DoorPost$Changes", "numbers", "[I", true)
  | 3 => ("DoorPost$Changes", "whats", "[I", true)
  | 4 => ("DoorPost$Changes", "befores", "[I", true)
  | 5 => ("DoorPost$Changes", "afters", "[I", true)
  | 6 => ("DoorPost$Changes", "done", "I", false)
  | _ => ("DoorPost$Changes", "kept", "I", false)
def tyX1 : Nat → FieldType := fun k => match k with
  | 0 => .object "DoorPost$Family"
  | 1 => .object "DoorPost$Marks"
  | 2 => .array .int
  | 3 => .array .int
  | 4 => .array .int
  | 5 => .array .int
  | 6 => .int
  | _ => .int
abbrev wsX10 : List Cond := u_ws RX1 TX1 8
theorem nmX1 : ∀ a, a < 8 → ∀ b, b < 8 → a ≠ b → (TX1 a).2.1 ≠ (TX1 b).2.1 := by decide +kernel
theorem tyX1_ok : ∀ k, k < 8 → parseFieldDescriptor (TX1 k).2.2.1 = some (tyX1 k) := by decide +kernel
abbrev cX1_init : ByteArray := prog_3_method_1_code
def yX1_init : MethodName := ⟨RX1, "<init>", "(LDoorPost$Family;LDoorPost$Marks;)V"⟩
abbrev cX1_toUndo : ByteArray := prog_3_method_2_code
def yX1_toUndo : MethodName := ⟨RX1, "toUndo", "()I"⟩
abbrev cX1_toRedo : ByteArray := prog_3_method_3_code
def yX1_toRedo : MethodName := ⟨RX1, "toRedo", "()I"⟩
abbrev cX1_change : ByteArray := prog_3_method_4_code
def yX1_change : MethodName := ⟨RX1, "change", "(III)I"⟩
abbrev cX1_valueOf : ByteArray := prog_3_method_5_code
def yX1_valueOf : MethodName := ⟨RX1, "valueOf", "(II)I"⟩
abbrev cX1_become : ByteArray := prog_3_method_6_code
def yX1_become : MethodName := ⟨RX1, "become", "(III)V"⟩
abbrev cX1_remember : ByteArray := prog_3_method_7_code
def yX1_remember : MethodName := ⟨RX1, "remember", "(IIII)V"⟩
abbrev cX1_dropOldest : ByteArray := prog_3_method_8_code
def yX1_dropOldest : MethodName := ⟨RX1, "dropOldest", "()V"⟩
abbrev cX1_goBack : ByteArray := prog_3_method_9_code
def yX1_goBack : MethodName := ⟨RX1, "goBack", "()V"⟩
abbrev cX1_goForward : ByteArray := prog_3_method_10_code
def yX1_goForward : MethodName := ⟨RX1, "goForward", "()V"⟩
def RX2 : String := "DoorPost$Family"
def TX2 : u_T := fun k => match k with
  | 0 => ("DoorPost$Family", "law", "LDoorPost$Law;", true)
  | 1 => ("DoorPost$Family", "born", "[I", true)
  | 2 => ("DoorPost$Family", "sex", "[I", true)
  | 3 => ("DoorPost$Family", "length", "[I", true)
  | 4 => ("DoorPost$Family", "late", "[I", true)
  | 5 => ("DoorPost$Family", "parents", "[I", true)
  | 6 => ("DoorPost$Family", "children", "I", false)
  | 7 => ("DoorPost$Family", "want", "[I", true)
  | 8 => ("DoorPost$Family", "noWant", "[I", true)
  | 9 => ("DoorPost$Family", "thoughtWant", "[I", true)
  | 10 => ("DoorPost$Family", "wantCount", "I", false)
  | 11 => ("DoorPost$Family", "heights", "[[I", true)
  | 12 => ("DoorPost$Family", "modelHeights", "[[I", true)
  | 13 => ("DoorPost$Family", "thoughtHeights", "[I", true)
  | 14 => ("DoorPost$Family", "stale", "[Z", true)
  | _ => ("DoorPost$Family", "names", "[I", true)
def tyX2 : Nat → FieldType := fun k => match k with
  | 0 => .object "DoorPost$Law"
  | 1 => .array .int
  | 2 => .array .int
  | 3 => .array .int
  | 4 => .array .int
  | 5 => .array .int
  | 6 => .int
  | 7 => .array .int
  | 8 => .array .int
  | 9 => .array .int
  | 10 => .int
  | 11 => .array (.array .int)
  | 12 => .array (.array .int)
  | 13 => .array .int
  | 14 => .array .boolean
  | _ => .array .int
abbrev wsX20 : List Cond := u_ws RX2 TX2 16
theorem nmX2 : ∀ a, a < 16 → ∀ b, b < 16 → a ≠ b → (TX2 a).2.1 ≠ (TX2 b).2.1 := by decide +kernel
theorem tyX2_ok : ∀ k, k < 16 → parseFieldDescriptor (TX2 k).2.2.1 = some (tyX2 k) := by decide +kernel
abbrev cX2_init : ByteArray := prog_4_method_1_code
def yX2_init : MethodName := ⟨RX2, "<init>", "(LDoorPost$Law;)V"⟩
abbrev cX2_size : ByteArray := prog_4_method_2_code
def yX2_size : MethodName := ⟨RX2, "size", "()I"⟩
abbrev cX2_has : ByteArray := prog_4_method_3_code
def yX2_has : MethodName := ⟨RX2, "has", "(I)Z"⟩
abbrev cX2_add : ByteArray := prog_4_method_4_code
def yX2_add : MethodName := ⟨RX2, "add", "(IIIII)I"⟩
abbrev cX2_told : ByteArray := prog_4_method_5_code
def yX2_told : MethodName := ⟨RX2, "told", "(II)I"⟩
abbrev cX2_bornIn : ByteArray := prog_4_method_6_code
def yX2_bornIn : MethodName := ⟨RX2, "bornIn", "(I)I"⟩
abbrev cX2_isBorn : ByteArray := prog_4_method_7_code
def yX2_isBorn : MethodName := ⟨RX2, "isBorn", "(II)Z"⟩
abbrev cX2_becomeLate : ByteArray := prog_4_method_8_code
def yX2_becomeLate : MethodName := ⟨RX2, "becomeLate", "(II)V"⟩
abbrev cX2_becomeParents : ByteArray := prog_4_method_9_code
def yX2_becomeParents : MethodName := ⟨RX2, "becomeParents", "(II)V"⟩
abbrev cX2_wantsTold : ByteArray := prog_4_method_10_code
def yX2_wantsTold : MethodName := ⟨RX2, "wantsTold", "()I"⟩
abbrev cX2_wantAt : ByteArray := prog_4_method_11_code
def yX2_wantAt : MethodName := ⟨RX2, "wantAt", "(I)I"⟩
abbrev cX2_addWant : ByteArray := prog_4_method_12_code
def yX2_addWant : MethodName := ⟨RX2, "addWant", "(III)I"⟩
abbrev cX2_raise : ByteArray := prog_4_method_13_code
def yX2_raise : MethodName := ⟨RX2, "raise", "([IIII)V"⟩
abbrev cX2_forgetHeights : ByteArray := prog_4_method_14_code
def yX2_forgetHeights : MethodName := ⟨RX2, "forgetHeights", "()V"⟩
abbrev cX2_refresh : ByteArray := prog_4_method_15_code
def yX2_refresh : MethodName := ⟨RX2, "refresh", "()V"⟩
abbrev cX2_heightAt : ByteArray := prog_4_method_16_code
def yX2_heightAt : MethodName := ⟨RX2, "heightAt", "(II)I"⟩
abbrev cX2_modelHeightAt : ByteArray := prog_4_method_17_code
def yX2_modelHeightAt : MethodName := ⟨RX2, "modelHeightAt", "(II)I"⟩
abbrev cX2_think : ByteArray := prog_4_method_18_code
def yX2_think : MethodName := ⟨RX2, "think", "(IIII)V"⟩
abbrev cX2_thoughtHeightAt : ByteArray := prog_4_method_19_code
def yX2_thoughtHeightAt : MethodName := ⟨RX2, "thoughtHeightAt", "(I)I"⟩
abbrev cX2_name : ByteArray := prog_4_method_20_code
def yX2_name : MethodName := ⟨RX2, "name", "(III)V"⟩
abbrev cX2_grow : ByteArray := prog_4_method_21_code
def yX2_grow : MethodName := ⟨RX2, "grow", "([IIII[I)V"⟩
def RX3 : String := "DoorPost$Guesses"
def TX3 : u_T := fun k => match k with
  | 0 => ("DoorPost$Guesses", "family", "LDoorPost$Family;", true)
  | 1 => ("DoorPost$Guesses", "marks", "LDoorPost$Marks;", true)
  | 2 => ("DoorPost$Guesses", "foundChild", "I", false)
  | 3 => ("DoorPost$Guesses", "foundMonth", "I", false)
  | 4 => ("DoorPost$Guesses", "foundDistance", "I", false)
  | 5 => ("DoorPost$Guesses", "gathered", "[I", true)
  | 6 => ("DoorPost$Guesses", "gatheredCount", "I", false)
  | 7 => ("DoorPost$Guesses", "tried", "[I", true)
  | 8 => ("DoorPost$Guesses", "shared", "[I", true)
  | _ => ("DoorPost$Guesses", "sharedSum", "I", false)
def tyX3 : Nat → FieldType := fun k => match k with
  | 0 => .object "DoorPost$Family"
  | 1 => .object "DoorPost$Marks"
  | 2 => .int
  | 3 => .int
  | 4 => .int
  | 5 => .array .int
  | 6 => .int
  | 7 => .array .int
  | 8 => .array .int
  | _ => .int
abbrev wsX30 : List Cond := u_ws RX3 TX3 10
theorem nmX3 : ∀ a, a < 10 → ∀ b, b < 10 → a ≠ b → (TX3 a).2.1 ≠ (TX3 b).2.1 := by decide +kernel
theorem tyX3_ok : ∀ k, k < 10 → parseFieldDescriptor (TX3 k).2.2.1 = some (tyX3 k) := by decide +kernel
abbrev cX3_init : ByteArray := prog_5_method_1_code
def yX3_init : MethodName := ⟨RX3, "<init>", "(LDoorPost$Family;LDoorPost$Marks;)V"⟩
abbrev cX3_foundChild : ByteArray := prog_5_method_2_code
def yX3_foundChild : MethodName := ⟨RX3, "foundChild", "()I"⟩
abbrev cX3_foundMonth : ByteArray := prog_5_method_3_code
def yX3_foundMonth : MethodName := ⟨RX3, "foundMonth", "()I"⟩
abbrev cX3_foundDistance : ByteArray := prog_5_method_4_code
def yX3_foundDistance : MethodName := ⟨RX3, "foundDistance", "()I"⟩
abbrev cX3_distance : ByteArray := prog_5_method_5_code
def yX3_distance : MethodName := ⟨RX3, "distance", "(IIII)I"⟩
abbrev cX3_made : ByteArray := prog_5_method_6_code
def yX3_made : MethodName := ⟨RX3, "made", "(II)I"⟩
abbrev cX3_findFor : ByteArray := prog_5_method_7_code
def yX3_findFor : MethodName := ⟨RX3, "findFor", "(I)Z"⟩
abbrev cX3_find : ByteArray := prog_5_method_8_code
def yX3_find : MethodName := ⟨RX3, "find", "(IIII)Z"⟩
abbrev cX3_leadingTo : ByteArray := prog_5_method_9_code
def yX3_leadingTo : MethodName := ⟨RX3, "leadingTo", "(I)I"⟩
abbrev cX3_chance : ByteArray := prog_5_method_10_code
def yX3_chance : MethodName := ⟨RX3, "chance", "(II)I"⟩
abbrev cX3_weight : ByteArray := prog_5_method_11_code
def yX3_weight : MethodName := ⟨RX3, "weight", "(II)I"⟩
abbrev cX3_likeliestWay : ByteArray := prog_5_method_12_code
def yX3_likeliestWay : MethodName := ⟨RX3, "likeliestWay", "(I)I"⟩
abbrev cX3_wrongWay : ByteArray := prog_5_method_13_code
def yX3_wrongWay : MethodName := ⟨RX3, "wrongWay", "(I)I"⟩
abbrev cX3_foundDistanceBy : ByteArray := prog_5_method_14_code
def yX3_foundDistanceBy : MethodName := ⟨RX3, "foundDistanceBy", "(II)I"⟩
abbrev cX3_gather : ByteArray := prog_5_method_15_code
def yX3_gather : MethodName := ⟨RX3, "gather", "(I)I"⟩
abbrev cX3_shareOut : ByteArray := prog_5_method_16_code
def yX3_shareOut : MethodName := ⟨RX3, "shareOut", "(I)Z"⟩
abbrev cX3_sumOfRow : ByteArray := prog_5_method_17_code
def yX3_sumOfRow : MethodName := ⟨RX3, "sumOfRow", "(II)I"⟩
abbrev cX3_isTriedBehind : ByteArray := prog_5_method_18_code
def yX3_isTriedBehind : MethodName := ⟨RX3, "isTriedBehind", "(II)Z"⟩
abbrev cX3_sharedSum : ByteArray := prog_5_method_19_code
def yX3_sharedSum : MethodName := ⟨RX3, "sharedSum", "()I"⟩
abbrev cX3_sharedChild : ByteArray := prog_5_method_20_code
def yX3_sharedChild : MethodName := ⟨RX3, "sharedChild", "(I)I"⟩
abbrev cX3_slipsFound : ByteArray := prog_5_method_21_code
def yX3_slipsFound : MethodName := ⟨RX3, "slipsFound", "(IIIII)I"⟩
def RX4 : String := "DoorPost$Law"
def TX4 : u_T := fun k => match k with
  | 0 => ("DoorPost$Law", "steps", "[I", true)
  | 1 => ("DoorPost$Law", "details", "[I", true)
  | 2 => ("DoorPost$Law", "stack", "[I", true)
  | 3 => ("DoorPost$Law", "length", "I", false)
  | 4 => ("DoorPost$Law", "top", "I", false)
  | _ => ("DoorPost$Law", "hasText", "Z", false)
def tyX4 : Nat → FieldType := fun k => match k with
  | 0 => .array .int
  | 1 => .array .int
  | 2 => .array .int
  | 3 => .int
  | 4 => .int
  | _ => .boolean
abbrev wsX40 : List Cond := u_ws RX4 TX4 6
theorem nmX4 : ∀ a, a < 6 → ∀ b, b < 6 → a ≠ b → (TX4 a).2.1 ≠ (TX4 b).2.1 := by decide +kernel
theorem tyX4_ok : ∀ k, k < 6 → parseFieldDescriptor (TX4 k).2.2.1 = some (tyX4 k) := by decide +kernel
abbrev cX4_init : ByteArray := prog_6_method_1_code
def yX4_init : MethodName := ⟨RX4, "<init>", "()V"⟩
abbrev cX4_become : ByteArray := prog_6_method_2_code
def yX4_become : MethodName := ⟨RX4, "become", "([I[II)V"⟩
abbrev cX4_growth : ByteArray := prog_6_method_3_code
def yX4_growth : MethodName := ⟨RX4, "growth", "([I)I"⟩
abbrev cX4_withoutText : ByteArray := prog_6_method_4_code
def yX4_withoutText : MethodName := ⟨RX4, "withoutText", "(I)I"⟩
abbrev cX4_workOut : ByteArray := prog_6_method_5_code
def yX4_workOut : MethodName := ⟨RX4, "workOut", "([I)I"⟩
abbrev cX4_takeStep : ByteArray := prog_6_method_6_code
def yX4_takeStep : MethodName := ⟨RX4, "takeStep", "(II[I)V"⟩
abbrev cX4_joined : ByteArray := prog_6_method_7_code
def yX4_joined : MethodName := ⟨RX4, "joined", "(III)I"⟩
abbrev cX4_push : ByteArray := prog_6_method_8_code
def yX4_push : MethodName := ⟨RX4, "push", "(I)V"⟩
abbrev cX4_pop : ByteArray := prog_6_method_9_code
def yX4_pop : MethodName := ⟨RX4, "pop", "()I"⟩
def RX5 : String := "DoorPost$Marks"
def TX5 : u_T := fun k => match k with
  | 0 => ("DoorPost$Marks", "height", "[I", true)
  | 1 => ("DoorPost$Marks", "name", "[I", true)
  | 2 => ("DoorPost$Marks", "month", "[I", true)
  | 3 => ("DoorPost$Marks", "way", "[I", true)
  | 4 => ("DoorPost$Marks", "made", "I", false)
  | 5 => ("DoorPost$Marks", "paintedUpTo", "I", false)
  | _ => ("DoorPost$Marks", "madeAheadOfPaint", "I", false)
def tyX5 : Nat → FieldType := fun k => match k with
  | 0 => .array .int
  | 1 => .array .int
  | 2 => .array .int
  | 3 => .array .int
  | 4 => .int
  | 5 => .int
  | _ => .int
abbrev wsX50 : List Cond := u_ws RX5 TX5 7
theorem nmX5 : ∀ a, a < 7 → ∀ b, b < 7 → a ≠ b → (TX5 a).2.1 ≠ (TX5 b).2.1 := by decide +kernel
theorem tyX5_ok : ∀ k, k < 7 → parseFieldDescriptor (TX5 k).2.2.1 = some (tyX5 k) := by decide +kernel
abbrev cX5_init : ByteArray := prog_7_method_1_code
def yX5_init : MethodName := ⟨RX5, "<init>", "()V"⟩
abbrev cX5_size : ByteArray := prog_7_method_2_code
def yX5_size : MethodName := ⟨RX5, "size", "()I"⟩
abbrev cX5_has : ByteArray := prog_7_method_3_code
def yX5_has : MethodName := ⟨RX5, "has", "(I)Z"⟩
abbrev cX5_add : ByteArray := prog_7_method_4_code
def yX5_add : MethodName := ⟨RX5, "add", "(IIII)I"⟩
abbrev cX5_told : ByteArray := prog_7_method_5_code
def yX5_told : MethodName := ⟨RX5, "told", "(II)I"⟩
abbrev cX5_heightOf : ByteArray := prog_7_method_6_code
def yX5_heightOf : MethodName := ⟨RX5, "heightOf", "(I)I"⟩
abbrev cX5_nameOf : ByteArray := prog_7_method_7_code
def yX5_nameOf : MethodName := ⟨RX5, "nameOf", "(I)I"⟩
abbrev cX5_monthOf : ByteArray := prog_7_method_8_code
def yX5_monthOf : MethodName := ⟨RX5, "monthOf", "(I)I"⟩
abbrev cX5_wayOf : ByteArray := prog_7_method_9_code
def yX5_wayOf : MethodName := ⟨RX5, "wayOf", "(I)I"⟩
abbrev cX5_becomeHeight : ByteArray := prog_7_method_10_code
def yX5_becomeHeight : MethodName := ⟨RX5, "becomeHeight", "(II)V"⟩
abbrev cX5_becomeWay : ByteArray := prog_7_method_11_code
def yX5_becomeWay : MethodName := ⟨RX5, "becomeWay", "(II)V"⟩
abbrev cX5_cover : ByteArray := prog_7_method_12_code
def yX5_cover : MethodName := ⟨RX5, "cover", "(I)V"⟩
abbrev cX5_covered : ByteArray := prog_7_method_13_code
def yX5_covered : MethodName := ⟨RX5, "covered", "()I"⟩
abbrev cX5_isCovered : ByteArray := prog_7_method_14_code
def yX5_isCovered : MethodName := ⟨RX5, "isCovered", "(I)Z"⟩
abbrev cX5_turnedMarks : ByteArray := prog_7_method_15_code
def yX5_turnedMarks : MethodName := ⟨RX5, "turnedMarks", "(I)I"⟩
abbrev cX5_firstTurned : ByteArray := prog_7_method_16_code
def yX5_firstTurned : MethodName := ⟨RX5, "firstTurned", "(I)I"⟩
abbrev cX5_isTurned : ByteArray := prog_7_method_17_code
def yX5_isTurned : MethodName := ⟨RX5, "isTurned", "(II)Z"⟩
abbrev cX5_isToldOf : ByteArray := prog_7_method_18_code
def yX5_isToldOf : MethodName := ⟨RX5, "isToldOf", "(II)Z"⟩
def RX6 : String := "DoorPost$Outlook"
def TX6 : u_T := fun k => match k with
  | _ => ("DoorPost$Outlook", "family", "LDoorPost$Family;", true)
def tyX6 : Nat → FieldType := fun k => match k with
  | _ => .object "DoorPost$Family"
abbrev wsX60 : List Cond := u_ws RX6 TX6 1
theorem nmX6 : ∀ a, a < 1 → ∀ b, b < 1 → a ≠ b → (TX6 a).2.1 ≠ (TX6 b).2.1 := by decide +kernel
theorem tyX6_ok : ∀ k, k < 1 → parseFieldDescriptor (TX6 k).2.2.1 = some (tyX6 k) := by decide +kernel
abbrev cX6_init : ByteArray := prog_8_method_1_code
def yX6_init : MethodName := ⟨RX6, "<init>", "(LDoorPost$Family;)V"⟩
abbrev cX6_endMonth : ByteArray := prog_8_method_2_code
def yX6_endMonth : MethodName := ⟨RX6, "endMonth", "(I)I"⟩
abbrev cX6_endOf : ByteArray := prog_8_method_3_code
def yX6_endOf : MethodName := ⟨RX6, "endOf", "(I)I"⟩
abbrev cX6_twiceAtTwo : ByteArray := prog_8_method_4_code
def yX6_twiceAtTwo : MethodName := ⟨RX6, "twiceAtTwo", "(I)I"⟩
abbrev cX6_byParents : ByteArray := prog_8_method_5_code
def yX6_byParents : MethodName := ⟨RX6, "byParents", "(I)I"⟩
abbrev cX6_yearOf : ByteArray := prog_8_method_6_code
def yX6_yearOf : MethodName := ⟨RX6, "yearOf", "(IZ)I"⟩
abbrev cX6_isBetter : ByteArray := prog_8_method_7_code
def yX6_isBetter : MethodName := ⟨RX6, "isBetter", "(IIZ)Z"⟩
abbrev cX6_isWholeYear : ByteArray := prog_8_method_8_code
def yX6_isWholeYear : MethodName := ⟨RX6, "isWholeYear", "(II)Z"⟩
abbrev cX6_growthInYear : ByteArray := prog_8_method_9_code
def yX6_growthInYear : MethodName := ⟨RX6, "growthInYear", "(II)I"⟩
abbrev cX6_lineAt : ByteArray := prog_8_method_10_code
def yX6_lineAt : MethodName := ⟨RX6, "lineAt", "(II)I"⟩
abbrev cX6_firstFall : ByteArray := prog_8_method_11_code
def yX6_firstFall : MethodName := ⟨RX6, "firstFall", "(I)I"⟩
abbrev cX6_firstOvertaking : ByteArray := prog_8_method_12_code
def yX6_firstOvertaking : MethodName := ⟨RX6, "firstOvertaking", "(II)I"⟩
abbrev cX6_isHigher : ByteArray := prog_8_method_13_code
def yX6_isHigher : MethodName := ⟨RX6, "isHigher", "(III)Z"⟩
def RX7 : String := "DoorPost$Reader"
def TX7 : u_T := fun k => match k with
  | 0 => ("DoorPost$Reader", "tape", "[I", true)
  | 1 => ("DoorPost$Reader", "steps", "[I", true)
  | 2 => ("DoorPost$Reader", "details", "[I", true)
  | 3 => ("DoorPost$Reader", "fed", "I", false)
  | 4 => ("DoorPost$Reader", "at", "I", false)
  | _ => ("DoorPost$Reader", "written", "I", false)
def tyX7 : Nat → FieldType := fun k => match k with
  | 0 => .array .int
  | 1 => .array .int
  | 2 => .array .int
  | 3 => .int
  | 4 => .int
  | _ => .int
abbrev wsX70 : List Cond := u_ws RX7 TX7 6
theorem nmX7 : ∀ a, a < 6 → ∀ b, b < 6 → a ≠ b → (TX7 a).2.1 ≠ (TX7 b).2.1 := by decide +kernel
theorem tyX7_ok : ∀ k, k < 6 → parseFieldDescriptor (TX7 k).2.2.1 = some (tyX7 k) := by decide +kernel
abbrev cX7_init : ByteArray := prog_9_method_1_code
def yX7_init : MethodName := ⟨RX7, "<init>", "()V"⟩
abbrev cX7_tapeLength : ByteArray := prog_9_method_2_code
def yX7_tapeLength : MethodName := ⟨RX7, "tapeLength", "()I"⟩
abbrev cX7_take : ByteArray := prog_9_method_3_code
def yX7_take : MethodName := ⟨RX7, "take", "(I)I"⟩
abbrev cX7_emptyTape : ByteArray := prog_9_method_4_code
def yX7_emptyTape : MethodName := ⟨RX7, "emptyTape", "()V"⟩
abbrev cX7_giveTo : ByteArray := prog_9_method_5_code
def yX7_giveTo : MethodName := ⟨RX7, "giveTo", "(LDoorPost$Law;)V"⟩
abbrev cX7_read : ByteArray := prog_9_method_6_code
def yX7_read : MethodName := ⟨RX7, "read", "()I"⟩
abbrev cX7_readLine : ByteArray := prog_9_method_7_code
def yX7_readLine : MethodName := ⟨RX7, "readLine", "()Z"⟩
abbrev cX7_readJoined : ByteArray := prog_9_method_8_code
def yX7_readJoined : MethodName := ⟨RX7, "readJoined", "(II)Z"⟩
abbrev cX7_readTighter : ByteArray := prog_9_method_9_code
def yX7_readTighter : MethodName := ⟨RX7, "readTighter", "(II)Z"⟩
abbrev cX7_readOperand : ByteArray := prog_9_method_10_code
def yX7_readOperand : MethodName := ⟨RX7, "readOperand", "(I)Z"⟩
abbrev cX7_readOpened : ByteArray := prog_9_method_11_code
def yX7_readOpened : MethodName := ⟨RX7, "readOpened", "(II)Z"⟩
abbrev cX7_readNumber : ByteArray := prog_9_method_12_code
def yX7_readNumber : MethodName := ⟨RX7, "readNumber", "()V"⟩
abbrev cX7_isOperator : ByteArray := prog_9_method_13_code
def yX7_isOperator : MethodName := ⟨RX7, "isOperator", "(II)Z"⟩
abbrev cX7_isDigit : ByteArray := prog_9_method_14_code
def yX7_isDigit : MethodName := ⟨RX7, "isDigit", "(I)Z"⟩
abbrev cX7_seen : ByteArray := prog_9_method_15_code
def yX7_seen : MethodName := ⟨RX7, "seen", "()I"⟩
abbrev cX7_skip : ByteArray := prog_9_method_16_code
def yX7_skip : MethodName := ⟨RX7, "skip", "(I)Z"⟩
abbrev cX7_write : ByteArray := prog_9_method_17_code
def yX7_write : MethodName := ⟨RX7, "write", "(II)V"⟩
def RX8 : String := "DoorPost$Shelves"
def TX8 : u_T := fun k => match k with
  | 0 => ("DoorPost$Shelves", "bodies", "[I", true)
  | 1 => ("DoorPost$Shelves", "sorts", "[I", true)
  | 2 => ("DoorPost$Shelves", "sizes", "[I", true)
  | _ => ("DoorPost$Shelves", "elements", "[[J", true)
def tyX8 : Nat → FieldType := fun k => match k with
  | 0 => .array .int
  | 1 => .array .int
  | 2 => .array .int
  | _ => .array (.array .long)
abbrev wsX80 : List Cond := u_ws RX8 TX8 4
theorem nmX8 : ∀ a, a < 4 → ∀ b, b < 4 → a ≠ b → (TX8 a).2.1 ≠ (TX8 b).2.1 := by decide +kernel
theorem tyX8_ok : ∀ k, k < 4 → parseFieldDescriptor (TX8 k).2.2.1 = some (tyX8 k) := by decide +kernel
abbrev cX8_init : ByteArray := prog_10_method_1_code
def yX8_init : MethodName := ⟨RX8, "<init>", "()V"⟩
abbrev cX8_isSort : ByteArray := prog_10_method_2_code
def yX8_isSort : MethodName := ⟨RX8, "isSort", "(I)Z"⟩
abbrev cX8_has : ByteArray := prog_10_method_3_code
def yX8_has : MethodName := ⟨RX8, "has", "(I)Z"⟩
abbrev cX8_holdsRow : ByteArray := prog_10_method_4_code
def yX8_holdsRow : MethodName := ⟨RX8, "holdsRow", "(I)Z"⟩
abbrev cX8_holdsShorts : ByteArray := prog_10_method_5_code
def yX8_holdsShorts : MethodName := ⟨RX8, "holdsShorts", "(I)Z"⟩
abbrev cX8_holdsNothing : ByteArray := prog_10_method_6_code
def yX8_holdsNothing : MethodName := ⟨RX8, "holdsNothing", "(I)Z"⟩
abbrev cX8_bodyOn : ByteArray := prog_10_method_7_code
def yX8_bodyOn : MethodName := ⟨RX8, "bodyOn", "(I)I"⟩
abbrev cX8_holdBody : ByteArray := prog_10_method_8_code
def yX8_holdBody : MethodName := ⟨RX8, "holdBody", "(II)V"⟩
abbrev cX8_holdRow : ByteArray := prog_10_method_9_code
def yX8_holdRow : MethodName := ⟨RX8, "holdRow", "(III)V"⟩
abbrev cX8_areAlike : ByteArray := prog_10_method_10_code
def yX8_areAlike : MethodName := ⟨RX8, "areAlike", "(II)Z"⟩
abbrev cX8_hasPlaces : ByteArray := prog_10_method_11_code
def yX8_hasPlaces : MethodName := ⟨RX8, "hasPlaces", "(III)Z"⟩
abbrev cX8_get : ByteArray := prog_10_method_12_code
def yX8_get : MethodName := ⟨RX8, "get", "(II)J"⟩
abbrev cX8_set : ByteArray := prog_10_method_13_code
def yX8_set : MethodName := ⟨RX8, "set", "(IIJ)V"⟩
abbrev cX8_lowestBits : ByteArray := prog_10_method_14_code
def yX8_lowestBits : MethodName := ⟨RX8, "lowestBits", "(IJ)J"⟩
abbrev cX8_move : ByteArray := prog_10_method_15_code
def yX8_move : MethodName := ⟨RX8, "move", "(IIIII)V"⟩
def RX9 : String := "DoorPost"
def TX9 : u_T := fun k => match k with
  | 0 => ("DoorPost", "growthLaw", "LDoorPost$Law;", true)
  | 1 => ("DoorPost", "reader", "LDoorPost$Reader;", true)
  | 2 => ("DoorPost", "family", "LDoorPost$Family;", true)
  | 3 => ("DoorPost", "postMarks", "LDoorPost$Marks;", true)
  | 4 => ("DoorPost", "guesses", "LDoorPost$Guesses;", true)
  | 5 => ("DoorPost", "outlook", "LDoorPost$Outlook;", true)
  | 6 => ("DoorPost", "changes", "LDoorPost$Changes;", true)
  | 7 => ("DoorPost", "acts", "LDoorPost$Acts;", true)
  | _ => ("DoorPost", "shelves", "LDoorPost$Shelves;", true)
def tyX9 : Nat → FieldType := fun k => match k with
  | 0 => .object "DoorPost$Law"
  | 1 => .object "DoorPost$Reader"
  | 2 => .object "DoorPost$Family"
  | 3 => .object "DoorPost$Marks"
  | 4 => .object "DoorPost$Guesses"
  | 5 => .object "DoorPost$Outlook"
  | 6 => .object "DoorPost$Changes"
  | 7 => .object "DoorPost$Acts"
  | _ => .object "DoorPost$Shelves"
abbrev wsX90 : List Cond := u_ws RX9 TX9 9
theorem nmX9 : ∀ a, a < 9 → ∀ b, b < 9 → a ≠ b → (TX9 a).2.1 ≠ (TX9 b).2.1 := by decide +kernel
theorem tyX9_ok : ∀ k, k < 9 → parseFieldDescriptor (TX9 k).2.2.1 = some (tyX9 k) := by decide +kernel
abbrev cX9_init : ByteArray := prog_1_method_1_code
def yX9_init : MethodName := ⟨RX9, "<init>", "()V"⟩
abbrev cX9_child : ByteArray := prog_1_method_2_code
def yX9_child : MethodName := ⟨RX9, "child", "(III)I"⟩
abbrev cX9_want : ByteArray := prog_1_method_3_code
def yX9_want : MethodName := ⟨RX9, "want", "(II)I"⟩
abbrev cX9_feed : ByteArray := prog_1_method_4_code
def yX9_feed : MethodName := ⟨RX9, "feed", "(I)I"⟩
abbrev cX9_law : ByteArray := prog_1_method_5_code
def yX9_law : MethodName := ⟨RX9, "law", "()I"⟩
abbrev cX9_height : ByteArray := prog_1_method_6_code
def yX9_height : MethodName := ⟨RX9, "height", "(II)I"⟩
abbrev cX9_wants : ByteArray := prog_1_method_7_code
def yX9_wants : MethodName := ⟨RX9, "wants", "(I)I"⟩
abbrev cX9_mark : ByteArray := prog_1_method_8_code
def yX9_mark : MethodName := ⟨RX9, "mark", "(III)I"⟩
abbrev cX9_marks : ByteArray := prog_1_method_9_code
def yX9_marks : MethodName := ⟨RX9, "marks", "(III)I"⟩
abbrev cX9_paint : ByteArray := prog_1_method_10_code
def yX9_paint : MethodName := ⟨RX9, "paint", "(I)I"⟩
abbrev cX9_of : ByteArray := prog_1_method_11_code
def yX9_of : MethodName := ⟨RX9, "of", "(II)I"⟩
abbrev cX9_mend : ByteArray := prog_1_method_12_code
def yX9_mend : MethodName := ⟨RX9, "mend", "(III)I"⟩
abbrev cX9_off : ByteArray := prog_1_method_13_code
def yX9_off : MethodName := ⟨RX9, "off", "(III)I"⟩
abbrev cX9_whose : ByteArray := prog_1_method_14_code
def yX9_whose : MethodName := ⟨RX9, "whose", "(II)I"⟩
abbrev cX9_odds : ByteArray := prog_1_method_15_code
def yX9_odds : MethodName := ⟨RX9, "odds", "(I)I"⟩
abbrev cX9_how : ByteArray := prog_1_method_16_code
def yX9_how : MethodName := ⟨RX9, "how", "(II)I"⟩
abbrev cX9_together : ByteArray := prog_1_method_17_code
def yX9_together : MethodName := ⟨RX9, "together", "(II)I"⟩
abbrev cX9_turned : ByteArray := prog_1_method_18_code
def yX9_turned : MethodName := ⟨RX9, "turned", "(II)I"⟩
abbrev cX9_led : ByteArray := prog_1_method_19_code
def yX9_led : MethodName := ⟨RX9, "led", "(I)I"⟩
abbrev cX9_tall : ByteArray := prog_1_method_20_code
def yX9_tall : MethodName := ⟨RX9, "tall", "(II)I"⟩
abbrev cX9_year : ByteArray := prog_1_method_21_code
def yX9_year : MethodName := ⟨RX9, "year", "(II)I"⟩
abbrev cX9_line : ByteArray := prog_1_method_22_code
def yX9_line : MethodName := ⟨RX9, "line", "(II)I"⟩
abbrev cX9_falls : ByteArray := prog_1_method_23_code
def yX9_falls : MethodName := ⟨RX9, "falls", "(I)I"⟩
abbrev cX9_overtakes : ByteArray := prog_1_method_24_code
def yX9_overtakes : MethodName := ⟨RX9, "overtakes", "(I)I"⟩
abbrev cX9_enough : ByteArray := prog_1_method_25_code
def yX9_enough : MethodName := ⟨RX9, "enough", "(III)I"⟩
abbrev cX9_slips : ByteArray := prog_1_method_26_code
def yX9_slips : MethodName := ⟨RX9, "slips", "(IIII)I"⟩
abbrev cX9_undo : ByteArray := prog_1_method_27_code
def yX9_undo : MethodName := ⟨RX9, "undo", "()I"⟩
abbrev cX9_redo : ByteArray := prog_1_method_28_code
def yX9_redo : MethodName := ⟨RX9, "redo", "()I"⟩
abbrev cX9_body : ByteArray := prog_1_method_29_code
def yX9_body : MethodName := ⟨RX9, "body", "(I)I"⟩
abbrev cX9_act : ByteArray := prog_1_method_30_code
def yX9_act : MethodName := ⟨RX9, "act", "(III)I"⟩
abbrev cX9_trace : ByteArray := prog_1_method_31_code
def yX9_trace : MethodName := ⟨RX9, "trace", "(I)I"⟩
abbrev cX9_keep : ByteArray := prog_1_method_32_code
def yX9_keep : MethodName := ⟨RX9, "keep", "(II)I"⟩
abbrev cX9_row : ByteArray := prog_1_method_33_code
def yX9_row : MethodName := ⟨RX9, "row", "(III)I"⟩
abbrev cX9_put : ByteArray := prog_1_method_34_code
def yX9_put : MethodName := ⟨RX9, "put", "(IIJ)I"⟩
abbrev cX9_element : ByteArray := prog_1_method_35_code
def yX9_element : MethodName := ⟨RX9, "element", "(II)J"⟩
abbrev cX9_shift : ByteArray := prog_1_method_36_code
def yX9_shift : MethodName := ⟨RX9, "shift", "(IIIII)I"⟩
abbrev cX9_taken : ByteArray := prog_1_method_37_code
def yX9_taken : MethodName := ⟨RX9, "taken", "(II)I"⟩
abbrev cX9_count : ByteArray := prog_1_method_38_code
def yX9_count : MethodName := ⟨RX9, "count", "(I)I"⟩
abbrev cX9_within : ByteArray := prog_1_method_39_code
def yX9_within : MethodName := ⟨RX9, "within", "(III)Z"⟩
abbrev cX9_isMonth : ByteArray := prog_1_method_40_code
def yX9_isMonth : MethodName := ⟨RX9, "isMonth", "(I)Z"⟩
abbrev cX9_isLate : ByteArray := prog_1_method_41_code
def yX9_isLate : MethodName := ⟨RX9, "isLate", "(I)Z"⟩
abbrev cX9_isParents : ByteArray := prog_1_method_42_code
def yX9_isParents : MethodName := ⟨RX9, "isParents", "(I)Z"⟩
abbrev cX9_isSpan : ByteArray := prog_1_method_43_code
def yX9_isSpan : MethodName := ⟨RX9, "isSpan", "(I)Z"⟩
abbrev cX9_isMark : ByteArray := prog_1_method_44_code
def yX9_isMark : MethodName := ⟨RX9, "isMark", "(IIII)Z"⟩
abbrev cX9_isMarkAndChild : ByteArray := prog_1_method_45_code
def yX9_isMarkAndChild : MethodName := ⟨RX9, "isMarkAndChild", "(I)Z"⟩
abbrev cX9_isMendable : ByteArray := prog_1_method_46_code
def yX9_isMendable : MethodName := ⟨RX9, "isMendable", "(III)Z"⟩
abbrev cX9_markFromRow : ByteArray := prog_1_method_47_code
def yX9_markFromRow : MethodName := ⟨RX9, "markFromRow", "(II)Z"⟩
abbrev cX9_refusalAt : ByteArray := prog_1_method_48_code
def yX9_refusalAt : MethodName := ⟨RX9, "refusalAt", "(II)I"⟩
def RX10 : String := "DoorPostModel"
def TX10 : u_T := fun k => match k with
  | 0 => ("DoorPostModel", "may", "[I", true)
  | 1 => ("DoorPostModel", "changeAt", "[I", true)
  | 2 => ("DoorPostModel", "changeWas", "[I", true)
  | 3 => ("DoorPostModel", "changeIs", "[I", true)
  | 4 => ("DoorPostModel", "keptMany", "I", false)
  | 5 => ("DoorPostModel", "done", "I", false)
  | 6 => ("DoorPostModel", "isGrown", "Z", false)
  | 7 => ("DoorPostModel", "children", "I", false)
  | 8 => ("DoorPostModel", "born", "[I", true)
  | 9 => ("DoorPostModel", "sex", "[I", true)
  | 10 => ("DoorPostModel", "length", "[I", true)
  | 11 => ("DoorPostModel", "wants", "I", false)
  | 12 => ("DoorPostModel", "wantFrom", "[I", true)
  | 13 => ("DoorPostModel", "wantTo", "[I", true)
  | 14 => ("DoorPostModel", "wantMuch", "[I", true)
  | 15 => ("DoorPostModel", "tape", "[I", true)
  | 16 => ("DoorPostModel", "tapeMany", "I", false)
  | 17 => ("DoorPostModel", "text", "[I", true)
  | 18 => ("DoorPostModel", "textMany", "I", false)
  | 19 => ("DoorPostModel", "base", "I", false)
  | 20 => ("DoorPostModel", "at", "I", false)
  | 21 => ("DoorPostModel", "ends", "I", false)
  | 22 => ("DoorPostModel", "fault", "I", false)
  | 23 => ("DoorPostModel", "opened", "I", false)
  | 24 => ("DoorPostModel", "names", "[I", true)
  | 25 => ("DoorPostModel", "high", "[I", true)
  | 26 => ("DoorPostModel", "marks", "I", false)
  | 27 => ("DoorPostModel", "name", "[I", true)
  | 28 => ("DoorPostModel", "month", "[I", true)
  | 29 => ("DoorPostModel", "isOver", "[Z", true)
  | 30 => ("DoorPostModel", "painted", "I", false)
  | 31 => ("DoorPostModel", "whoseChild", "I", false)
  | 32 => ("DoorPostModel", "whoseMonth", "I", false)
  | 33 => ("DoorPostModel", "whoseOff", "I", false)
  | 34 => ("DoorPostModel", "nameless", "[I", true)
  | 35 => ("DoorPostModel", "row1", "[I", true)
  | 36 => ("DoorPostModel", "bestRow", "[I", true)
  | 37 => ("DoorPostModel", "bestSum", "I", false)
  | 38 => ("DoorPostModel", "bodies", "I", false)
  | 39 => ("DoorPostModel", "bodyKind", "[I", true)
  | 40 => ("DoorPostModel", "trace", "[I", true)
  | 41 => ("DoorPostModel", "ran", "I", false)
  | 42 => ("DoorPostModel", "ownKind", "I", false)
  | 43 => ("DoorPostModel", "ownNumber", "I", false)
  | 44 => ("DoorPostModel", "shelf", "[I", true)
  | 45 => ("DoorPostModel", "many", "[I", true)
  | 46 => ("DoorPostModel", "items", "[J", true)
  | _ => ("DoorPostModel", "carried", "[J", true)
def tyX10 : Nat → FieldType := fun k => match k with
  | 0 => .array .int
  | 1 => .array .int
  | 2 => .array .int
  | 3 => .array .int
  | 4 => .int
  | 5 => .int
  | 6 => .boolean
  | 7 => .int
  | 8 => .array .int
  | 9 => .array .int
  | 10 => .array .int
  | 11 => .int
  | 12 => .array .int
  | 13 => .array .int
  | 14 => .array .int
  | 15 => .array .int
  | 16 => .int
  | 17 => .array .int
  | 18 => .int
  | 19 => .int
  | 20 => .int
  | 21 => .int
  | 22 => .int
  | 23 => .int
  | 24 => .array .int
  | 25 => .array .int
  | 26 => .int
  | 27 => .array .int
  | 28 => .array .int
  | 29 => .array .boolean
  | 30 => .int
  | 31 => .int
  | 32 => .int
  | 33 => .int
  | 34 => .array .int
  | 35 => .array .int
  | 36 => .array .int
  | 37 => .int
  | 38 => .int
  | 39 => .array .int
  | 40 => .array .int
  | 41 => .int
  | 42 => .int
  | 43 => .int
  | 44 => .array .int
  | 45 => .array .int
  | 46 => .array .long
  | _ => .array .long
abbrev wsX100 : List Cond := u_ws RX10 TX10 48
theorem nmX10 : ∀ a, a < 48 → ∀ b, b < 48 → a ≠ b → (TX10 a).2.1 ≠ (TX10 b).2.1 := by decide +kernel
theorem tyX10_ok : ∀ k, k < 48 → parseFieldDescriptor (TX10 k).2.2.1 = some (tyX10 k) := by decide +kernel
abbrev cX10_within : ByteArray := prog_12_method_1_code
def yX10_within : MethodName := ⟨RX10, "within", "(JJJ)Z"⟩
abbrev cX10_size : ByteArray := prog_12_method_2_code
def yX10_size : MethodName := ⟨RX10, "size", "(I)I"⟩
abbrev cX10_init : ByteArray := prog_12_method_3_code
def yX10_init : MethodName := ⟨RX10, "<init>", "()V"⟩
abbrev cX10_becomes : ByteArray := prog_12_method_4_code
def yX10_becomes : MethodName := ⟨RX10, "becomes", "(II)I"⟩
abbrev cX10_undo : ByteArray := prog_12_method_5_code
def yX10_undo : MethodName := ⟨RX10, "undo", "()I"⟩
abbrev cX10_redo : ByteArray := prog_12_method_6_code
def yX10_redo : MethodName := ⟨RX10, "redo", "()I"⟩
abbrev cX10_isChild : ByteArray := prog_12_method_7_code
def yX10_isChild : MethodName := ⟨RX10, "isChild", "(I)Z"⟩
abbrev cX10_isMonth : ByteArray := prog_12_method_8_code
def yX10_isMonth : MethodName := ⟨RX10, "isMonth", "(I)Z"⟩
abbrev cX10_isLate : ByteArray := prog_12_method_9_code
def yX10_isLate : MethodName := ⟨RX10, "isLate", "(I)Z"⟩
abbrev cX10_areParents : ByteArray := prog_12_method_10_code
def yX10_areParents : MethodName := ⟨RX10, "areParents", "(I)Z"⟩
abbrev cX10_child : ByteArray := prog_12_method_11_code
def yX10_child : MethodName := ⟨RX10, "child", "(III)I"⟩
abbrev cX10_isSpan : ByteArray := prog_12_method_12_code
def yX10_isSpan : MethodName := ⟨RX10, "isSpan", "(I)Z"⟩
abbrev cX10_want : ByteArray := prog_12_method_13_code
def yX10_want : MethodName := ⟨RX10, "want", "(II)I"⟩
abbrev cX10_tellsWant : ByteArray := prog_12_method_14_code
def yX10_tellsWant : MethodName := ⟨RX10, "tellsWant", "(II)V"⟩
abbrev cX10_wantOf : ByteArray := prog_12_method_15_code
def yX10_wantOf : MethodName := ⟨RX10, "wantOf", "(I)I"⟩
abbrev cX10_wants : ByteArray := prog_12_method_16_code
def yX10_wants : MethodName := ⟨RX10, "wants", "(I)I"⟩
abbrev cX10_feed : ByteArray := prog_12_method_17_code
def yX10_feed : MethodName := ⟨RX10, "feed", "(I)I"⟩
abbrev cX10_byteAt : ByteArray := prog_12_method_18_code
def yX10_byteAt : MethodName := ⟨RX10, "byteAt", "()I"⟩
abbrev cX10_wrong : ByteArray := prog_12_method_19_code
def yX10_wrong : MethodName := ⟨RX10, "wrong", "()I"⟩
abbrev cX10_takes : ByteArray := prog_12_method_20_code
def yX10_takes : MethodName := ⟨RX10, "takes", "(I)Z"⟩
abbrev cX10_either : ByteArray := prog_12_method_21_code
def yX10_either : MethodName := ⟨RX10, "either", "()I"⟩
abbrev cX10_both : ByteArray := prog_12_method_22_code
def yX10_both : MethodName := ⟨RX10, "both", "()I"⟩
abbrev cX10_compared : ByteArray := prog_12_method_23_code
def yX10_compared : MethodName := ⟨RX10, "compared", "()I"⟩
abbrev cX10_sums : ByteArray := prog_12_method_24_code
def yX10_sums : MethodName := ⟨RX10, "sums", "()I"⟩
abbrev cX10_product : ByteArray := prog_12_method_25_code
def yX10_product : MethodName := ⟨RX10, "product", "()I"⟩
abbrev cX10_nameOf : ByteArray := prog_12_method_26_code
def yX10_nameOf : MethodName := ⟨RX10, "nameOf", "(I)I"⟩
abbrev cX10_one : ByteArray := prog_12_method_27_code
def yX10_one : MethodName := ⟨RX10, "one", "()I"⟩
abbrev cX10_workOut : ByteArray := prog_12_method_28_code
def yX10_workOut : MethodName := ⟨RX10, "workOut", "(II)I"⟩
abbrev cX10_law : ByteArray := prog_12_method_29_code
def yX10_law : MethodName := ⟨RX10, "law", "()I"⟩
abbrev cX10_growsBy : ByteArray := prog_12_method_30_code
def yX10_growsBy : MethodName := ⟨RX10, "growsBy", "(IIIIII)I"⟩
abbrev cX10_growsUp : ByteArray := prog_12_method_31_code
def yX10_growsUp : MethodName := ⟨RX10, "growsUp", "(IIIZ)V"⟩
abbrev cX10_allGrow : ByteArray := prog_12_method_32_code
def yX10_allGrow : MethodName := ⟨RX10, "allGrow", "()V"⟩
abbrev cX10_heightOf : ByteArray := prog_12_method_33_code
def yX10_heightOf : MethodName := ⟨RX10, "heightOf", "(II)I"⟩
abbrev cX10_height : ByteArray := prog_12_method_34_code
def yX10_height : MethodName := ⟨RX10, "height", "(II)I"⟩
abbrev cX10_isMark : ByteArray := prog_12_method_35_code
def yX10_isMark : MethodName := ⟨RX10, "isMark", "(I)Z"⟩
abbrev cX10_isOne : ByteArray := prog_12_method_36_code
def yX10_isOne : MethodName := ⟨RX10, "isOne", "(JJJJ)Z"⟩
abbrev cX10_adds : ByteArray := prog_12_method_37_code
def yX10_adds : MethodName := ⟨RX10, "adds", "(IIII)V"⟩
abbrev cX10_mark : ByteArray := prog_12_method_38_code
def yX10_mark : MethodName := ⟨RX10, "mark", "(III)I"⟩
abbrev cX10_marks : ByteArray := prog_12_method_39_code
def yX10_marks : MethodName := ⟨RX10, "marks", "(III)I"⟩
abbrev cX10_isCovered : ByteArray := prog_12_method_40_code
def yX10_isCovered : MethodName := ⟨RX10, "isCovered", "(I)Z"⟩
abbrev cX10_paint : ByteArray := prog_12_method_41_code
def yX10_paint : MethodName := ⟨RX10, "paint", "(I)I"⟩
abbrev cX10_ofMark : ByteArray := prog_12_method_42_code
def yX10_ofMark : MethodName := ⟨RX10, "ofMark", "(II)I"⟩
abbrev cX10_ofChild : ByteArray := prog_12_method_43_code
def yX10_ofChild : MethodName := ⟨RX10, "ofChild", "(II)I"⟩
abbrev cX10_of : ByteArray := prog_12_method_44_code
def yX10_of : MethodName := ⟨RX10, "of", "(II)I"⟩
abbrev cX10_mend : ByteArray := prog_12_method_45_code
def yX10_mend : MethodName := ⟨RX10, "mend", "(III)I"⟩
abbrev cX10_byWay : ByteArray := prog_12_method_46_code
def yX10_byWay : MethodName := ⟨RX10, "byWay", "(II)I"⟩
abbrev cX10_offBy : ByteArray := prog_12_method_47_code
def yX10_offBy : MethodName := ⟨RX10, "offBy", "(IIII)I"⟩
abbrev cX10_offOf : ByteArray := prog_12_method_48_code
def yX10_offOf : MethodName := ⟨RX10, "offOf", "(III)I"⟩
abbrev cX10_isMc : ByteArray := prog_12_method_49_code
def yX10_isMc : MethodName := ⟨RX10, "isMc", "(I)Z"⟩
abbrev cX10_off : ByteArray := prog_12_method_50_code
def yX10_off : MethodName := ⟨RX10, "off", "(III)I"⟩
abbrev cX10_mayBe : ByteArray := prog_12_method_51_code
def yX10_mayBe : MethodName := ⟨RX10, "mayBe", "(II)Z"⟩
abbrev cX10_findWhose : ByteArray := prog_12_method_52_code
def yX10_findWhose : MethodName := ⟨RX10, "findWhose", "(I)V"⟩
abbrev cX10_whose : ByteArray := prog_12_method_53_code
def yX10_whose : MethodName := ⟨RX10, "whose", "(II)I"⟩
abbrev cX10_odds : ByteArray := prog_12_method_54_code
def yX10_odds : MethodName := ⟨RX10, "odds", "(I)I"⟩
abbrev cX10_how : ByteArray := prog_12_method_55_code
def yX10_how : MethodName := ⟨RX10, "how", "(II)I"⟩
abbrev cX10_goesTogether : ByteArray := prog_12_method_56_code
def yX10_goesTogether : MethodName := ⟨RX10, "goesTogether", "(IIIII)V"⟩
abbrev cX10_together : ByteArray := prog_12_method_57_code
def yX10_together : MethodName := ⟨RX10, "together", "(II)I"⟩
abbrev cX10_isTurned : ByteArray := prog_12_method_58_code
def yX10_isTurned : MethodName := ⟨RX10, "isTurned", "(I)Z"⟩
abbrev cX10_turned : ByteArray := prog_12_method_59_code
def yX10_turned : MethodName := ⟨RX10, "turned", "(II)I"⟩
abbrev cX10_led : ByteArray := prog_12_method_60_code
def yX10_led : MethodName := ⟨RX10, "led", "(I)I"⟩
abbrev cX10_endOf : ByteArray := prog_12_method_61_code
def yX10_endOf : MethodName := ⟨RX10, "endOf", "(I)I"⟩
abbrev cX10_twiceOf : ByteArray := prog_12_method_62_code
def yX10_twiceOf : MethodName := ⟨RX10, "twiceOf", "(I)I"⟩
abbrev cX10_byParents : ByteArray := prog_12_method_63_code
def yX10_byParents : MethodName := ⟨RX10, "byParents", "(I)I"⟩
abbrev cX10_tall : ByteArray := prog_12_method_64_code
def yX10_tall : MethodName := ⟨RX10, "tall", "(II)I"⟩
abbrev cX10_year : ByteArray := prog_12_method_65_code
def yX10_year : MethodName := ⟨RX10, "year", "(II)I"⟩
abbrev cX10_growsOther : ByteArray := prog_12_method_66_code
def yX10_growsOther : MethodName := ⟨RX10, "growsOther", "(I)V"⟩
abbrev cX10_lineOf : ByteArray := prog_12_method_67_code
def yX10_lineOf : MethodName := ⟨RX10, "lineOf", "(II)I"⟩
abbrev cX10_line : ByteArray := prog_12_method_68_code
def yX10_line : MethodName := ⟨RX10, "line", "(II)I"⟩
abbrev cX10_falls : ByteArray := prog_12_method_69_code
def yX10_falls : MethodName := ⟨RX10, "falls", "(I)I"⟩
abbrev cX10_overtakes : ByteArray := prog_12_method_70_code
def yX10_overtakes : MethodName := ⟨RX10, "overtakes", "(I)I"⟩
abbrev cX10_enough : ByteArray := prog_12_method_71_code
def yX10_enough : MethodName := ⟨RX10, "enough", "(III)I"⟩
abbrev cX10_nearest : ByteArray := prog_12_method_72_code
def yX10_nearest : MethodName := ⟨RX10, "nearest", "(II)I"⟩
abbrev cX10_slips : ByteArray := prog_12_method_73_code
def yX10_slips : MethodName := ⟨RX10, "slips", "(IIII)I"⟩
abbrev cX10_isBody : ByteArray := prog_12_method_74_code
def yX10_isBody : MethodName := ⟨RX10, "isBody", "(I)Z"⟩
abbrev cX10_kindOf : ByteArray := prog_12_method_75_code
def yX10_kindOf : MethodName := ⟨RX10, "kindOf", "(I)I"⟩
abbrev cX10_body : ByteArray := prog_12_method_76_code
def yX10_body : MethodName := ⟨RX10, "body", "(I)I"⟩
abbrev cX10_above : ByteArray := prog_12_method_77_code
def yX10_above : MethodName := ⟨RX10, "above", "(I)I"⟩
abbrev cX10_begins : ByteArray := prog_12_method_78_code
def yX10_begins : MethodName := ⟨RX10, "begins", "(I)V"⟩
abbrev cX10_growsAs : ByteArray := prog_12_method_79_code
def yX10_growsAs : MethodName := ⟨RX10, "growsAs", "(II)I"⟩
abbrev cX10_standsAs : ByteArray := prog_12_method_80_code
def yX10_standsAs : MethodName := ⟨RX10, "standsAs", "(II)I"⟩
abbrev cX10_marksAs : ByteArray := prog_12_method_81_code
def yX10_marksAs : MethodName := ⟨RX10, "marksAs", "(II)I"⟩
abbrev cX10_tellsAs : ByteArray := prog_12_method_82_code
def yX10_tellsAs : MethodName := ⟨RX10, "tellsAs", "(II)I"⟩
abbrev cX10_act : ByteArray := prog_12_method_83_code
def yX10_act : MethodName := ⟨RX10, "act", "(III)I"⟩
abbrev cX10_trace : ByteArray := prog_12_method_84_code
def yX10_trace : MethodName := ⟨RX10, "trace", "(I)I"⟩
abbrev cX10_isShelf : ByteArray := prog_12_method_85_code
def yX10_isShelf : MethodName := ⟨RX10, "isShelf", "(I)Z"⟩
abbrev cX10_keep : ByteArray := prog_12_method_86_code
def yX10_keep : MethodName := ⟨RX10, "keep", "(II)I"⟩
abbrev cX10_row : ByteArray := prog_12_method_87_code
def yX10_row : MethodName := ⟨RX10, "row", "(III)I"⟩
abbrev cX10_refusal : ByteArray := prog_12_method_88_code
def yX10_refusal : MethodName := ⟨RX10, "refusal", "(II)I"⟩
abbrev cX10_asSort : ByteArray := prog_12_method_89_code
def yX10_asSort : MethodName := ⟨RX10, "asSort", "(IJ)J"⟩
abbrev cX10_put : ByteArray := prog_12_method_90_code
def yX10_put : MethodName := ⟨RX10, "put", "(IIJ)I"⟩
abbrev cX10_element : ByteArray := prog_12_method_91_code
def yX10_element : MethodName := ⟨RX10, "element", "(II)J"⟩
abbrev cX10_shift : ByteArray := prog_12_method_92_code
def yX10_shift : MethodName := ⟨RX10, "shift", "(IIIII)I"⟩
abbrev cX10_taken : ByteArray := prog_12_method_93_code
def yX10_taken : MethodName := ⟨RX10, "taken", "(II)I"⟩
abbrev cX10_count : ByteArray := prog_12_method_94_code
def yX10_count : MethodName := ⟨RX10, "count", "(I)I"⟩
def RJ11 : String := "java/lang/Character"
def TJ11 : u_T := fun k => match k with
  | _ => ("", "", "", false)
def tyJ11 : Nat → FieldType := fun k => match k with
  | _ => .int
abbrev wsJ110 : List Cond := u_ws RJ11 TJ11 0
theorem nmJ11 : ∀ a, a < 0 → ∀ b, b < 0 → a ≠ b → (TJ11 a).2.1 ≠ (TJ11 b).2.1 := by decide +kernel
theorem tyJ11_ok : ∀ k, k < 0 → parseFieldDescriptor (TJ11 k).2.2.1 = some (tyJ11 k) := by decide +kernel
abbrev cJ11_isValidCodePoint_9a6ad : ByteArray := prog_13_method_11_code
def yJ11_isValidCodePoint_9a6ad : MethodName := ⟨RJ11, "isValidCodePoint", "(I)Z"⟩
abbrev cJ11_highSurrogate_5068e : ByteArray := prog_13_method_28_code
def yJ11_highSurrogate_5068e : MethodName := ⟨RJ11, "highSurrogate", "(I)C"⟩
abbrev cJ11_lowSurrogate_5068e : ByteArray := prog_13_method_29_code
def yJ11_lowSurrogate_5068e : MethodName := ⟨RJ11, "lowSurrogate", "(I)C"⟩
def RJ9 : String := "java/lang/Math"
def TJ9 : u_T := fun k => match k with
  | _ => ("", "", "", false)
def tyJ9 : Nat → FieldType := fun k => match k with
  | _ => .int
abbrev wsJ90 : List Cond := u_ws RJ9 TJ9 0
theorem nmJ9 : ∀ a, a < 0 → ∀ b, b < 0 → a ≠ b → (TJ9 a).2.1 ≠ (TJ9 b).2.1 := by decide +kernel
theorem tyJ9_ok : ∀ k, k < 0 → parseFieldDescriptor (TJ9 k).2.2.1 = some (tyJ9 k) := by decide +kernel
abbrev cJ9_abs_0f7a4 : ByteArray := prog_14_method_59_code
def yJ9_abs_0f7a4 : MethodName := ⟨RJ9, "abs", "(I)I"⟩
abbrev cJ9_max_7cf53 : ByteArray := prog_14_method_65_code
def yJ9_max_7cf53 : MethodName := ⟨RJ9, "max", "(II)I"⟩
abbrev cJ9_min_7cf53 : ByteArray := prog_14_method_69_code
def yJ9_min_7cf53 : MethodName := ⟨RJ9, "min", "(II)I"⟩
def RJ0 : String := "java/lang/String"
def TJ0 : u_T := fun k => match k with
  | _ => ("", "", "", false)
def tyJ0 : Nat → FieldType := fun k => match k with
  | _ => .int
abbrev wsJ00 : List Cond := u_ws RJ0 TJ0 0
theorem nmJ0 : ∀ a, a < 0 → ∀ b, b < 0 → a ≠ b → (TJ0 a).2.1 ≠ (TJ0 b).2.1 := by decide +kernel
theorem tyJ0_ok : ∀ k, k < 0 → parseFieldDescriptor (TJ0 k).2.2.1 = some (tyJ0 k) := by decide +kernel
abbrev cJ0_length_8abf5 : ByteArray := prog_15_method_54_code
def yJ0_length_8abf5 : MethodName := ⟨RJ0, "length", "()I"⟩
abbrev cJ0_indexOf_0f7a4 : ByteArray := prog_15_method_79_code
def yJ0_indexOf_0f7a4 : MethodName := ⟨RJ0, "indexOf", "(I)I"⟩
abbrev cJ0_indexOf_7cf53 : ByteArray := prog_15_method_80_code
def yJ0_indexOf_7cf53 : MethodName := ⟨RJ0, "indexOf", "(II)I"⟩
abbrev cJ0_coder_7d493 : ByteArray := prog_15_method_152_code
def yJ0_coder_7d493 : MethodName := ⟨RJ0, "coder", "()B"⟩
abbrev cJ0_isLatin1_aae02 : ByteArray := prog_15_method_154_code
def yJ0_isLatin1_aae02 : MethodName := ⟨RJ0, "isLatin1", "()Z"⟩
abbrev cJ0_checkBoundsBeginEnd_23922 : ByteArray := prog_15_method_158_code
def yJ0_checkBoundsBeginEnd_23922 : MethodName := ⟨RJ0, "checkBoundsBeginEnd", "(III)V"⟩
def RJ1 : String := "java/lang/StringLatin1"
def TJ1 : u_T := fun k => match k with
  | _ => ("", "", "", false)
def tyJ1 : Nat → FieldType := fun k => match k with
  | _ => .int
abbrev wsJ10 : List Cond := u_ws RJ1 TJ1 0
theorem nmJ1 : ∀ a, a < 0 → ∀ b, b < 0 → a ≠ b → (TJ1 a).2.1 ≠ (TJ1 b).2.1 := by decide +kernel
theorem tyJ1_ok : ∀ k, k < 0 → parseFieldDescriptor (TJ1 k).2.2.1 = some (tyJ1 k) := by decide +kernel
abbrev cJ1_canEncode_9a6ad : ByteArray := prog_16_method_4_code
def yJ1_canEncode_9a6ad : MethodName := ⟨RJ1, "canEncode", "(I)Z"⟩
abbrev cJ1_indexOf_4cfef : ByteArray := prog_16_method_22_code
def yJ1_indexOf_4cfef : MethodName := ⟨RJ1, "indexOf", "([BIII)I"⟩
abbrev cJ1_indexOfChar_4cfef : ByteArray := prog_16_method_23_code
def yJ1_indexOfChar_4cfef : MethodName := ⟨RJ1, "indexOfChar", "([BIII)I"⟩
def RJ2 : String := "java/lang/StringUTF16"
def TJ2 : u_T := fun k => match k with
  | _ => ("", "", "", false)
def tyJ2 : Nat → FieldType := fun k => match k with
  | _ => .int
abbrev wsJ20 : List Cond := u_ws RJ2 TJ2 0
theorem nmJ2 : ∀ a, a < 0 → ∀ b, b < 0 → a ≠ b → (TJ2 a).2.1 ≠ (TJ2 b).2.1 := by decide +kernel
theorem tyJ2_ok : ∀ k, k < 0 → parseFieldDescriptor (TJ2 k).2.2.1 = some (tyJ2 k) := by decide +kernel
abbrev cJ2_getChar_3b067 : ByteArray := prog_17_method_5_code
def yJ2_getChar_3b067 : MethodName := ⟨RJ2, "getChar", "([BI)C"⟩
abbrev cJ2_length_9d52b : ByteArray := prog_17_method_6_code
def yJ2_length_9d52b : MethodName := ⟨RJ2, "length", "([B)I"⟩
abbrev cJ2_indexOf_4cfef : ByteArray := prog_17_method_40_code
def yJ2_indexOf_4cfef : MethodName := ⟨RJ2, "indexOf", "([BIII)I"⟩
abbrev cJ2_indexOfChar_4cfef : ByteArray := prog_17_method_47_code
def yJ2_indexOfChar_4cfef : MethodName := ⟨RJ2, "indexOfChar", "([BIII)I"⟩
abbrev cJ2_indexOfCharUnsafe_4cfef : ByteArray := prog_17_method_48_code
def yJ2_indexOfCharUnsafe_4cfef : MethodName := ⟨RJ2, "indexOfCharUnsafe", "([BIII)I"⟩
abbrev cJ2_indexOfSupplementary_4cfef : ByteArray := prog_17_method_49_code
def yJ2_indexOfSupplementary_4cfef : MethodName := ⟨RJ2, "indexOfSupplementary", "([BIII)I"⟩
abbrev cJ2_checkBoundsBeginEnd_d044e : ByteArray := prog_17_method_93_code
def yJ2_checkBoundsBeginEnd_d044e : MethodName := ⟨RJ2, "checkBoundsBeginEnd", "(II[B)V"⟩
def RJ10 : String := "java/lang/System"
def TJ10 : u_T := fun k => match k with
  | _ => ("", "", "", false)
def tyJ10 : Nat → FieldType := fun k => match k with
  | _ => .int
abbrev wsJ100 : List Cond := u_ws RJ10 TJ10 0
theorem nmJ10 : ∀ a, a < 0 → ∀ b, b < 0 → a ≠ b → (TJ10 a).2.1 ≠ (TJ10 b).2.1 := by decide +kernel
theorem tyJ10_ok : ∀ k, k < 0 → parseFieldDescriptor (TJ10 k).2.2.1 = some (tyJ10 k) := by decide +kernel
def RJ3 : String := "jdk/internal/util/Preconditions"
def TJ3 : u_T := fun k => match k with
  | _ => ("", "", "", false)
def tyJ3 : Nat → FieldType := fun k => match k with
  | _ => .int
abbrev wsJ30 : List Cond := u_ws RJ3 TJ3 0
theorem nmJ3 : ∀ a, a < 0 → ∀ b, b < 0 → a ≠ b → (TJ3 a).2.1 ≠ (TJ3 b).2.1 := by decide +kernel
theorem tyJ3_ok : ∀ k, k < 0 → parseFieldDescriptor (TJ3 k).2.2.1 = some (tyJ3 k) := by decide +kernel
abbrev cJ3_checkFromToIndex_8c36e : ByteArray := prog_19_method_12_code
def yJ3_checkFromToIndex_8c36e : MethodName := ⟨RJ3, "checkFromToIndex", "(IIILjava/util/function/BiFunction;)I"⟩
def RL : String := "DoorPostLaw"
abbrev cL_law : ByteArray := code
def yL_law : MethodName := ⟨RL, "law", "([I)Z"⟩
abbrev vwCl : List vw_C := [(RX0, TX0, 6), (RX1, TX1, 8), (RX2, TX2, 16), (RX3, TX3, 10), (RX4, TX4, 6), (RX5, TX5, 7), (RX6, TX6, 1), (RX7, TX7, 6), (RX8, TX8, 4), (RX9, TX9, 9), (RX10, TX10, 48)]
