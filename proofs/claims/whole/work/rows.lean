section
-- ===== PART A: goes FIRST, ahead of the names: the tables' words, and 'selects' of the private methods out of them =====
/-- a private method of a class that the tables say can be made, by its rows of tables_1 -/
def lw_okq (q : MethodName × Nat) : Prop := (q.1.cls ≠ "java/lang/invoke/MethodHandle" ∧ q.1.cls ≠ "java/lang/invoke/VarHandle") ∧ Cond.instantiable q.1.cls q.2 ∈ tables_1 ∧ Cond.privateMethod q.1 ∈ tables_1 ∧ Cond.instanceMethod q.1 ∈ tables_1
theorem lw_p0 : lw_okq (⟨"NoonJars", "makeRow", "(LNoonJars$Row;II)I"⟩, 15) := ⟨⟨by decide +kernel, by decide +kernel⟩, List.mem_of_getElem? (i := 18) (by decide +kernel), List.mem_of_getElem? (i := 283) (by decide +kernel), List.mem_of_getElem? (i := 284) (by decide +kernel)⟩
theorem lw_p1 : lw_okq (⟨"NoonJars", "find", "(I)I"⟩, 15) := ⟨⟨by decide +kernel, by decide +kernel⟩, List.mem_of_getElem? (i := 18) (by decide +kernel), List.mem_of_getElem? (i := 287) (by decide +kernel), List.mem_of_getElem? (i := 288) (by decide +kernel)⟩
theorem lw_p2 : lw_okq (⟨"NoonJars", "refusePlace", "([LNoonJars$Row;II)I"⟩, 15) := ⟨⟨by decide +kernel, by decide +kernel⟩, List.mem_of_getElem? (i := 18) (by decide +kernel), List.mem_of_getElem? (i := 300) (by decide +kernel), List.mem_of_getElem? (i := 301) (by decide +kernel)⟩
theorem lw_p3 : lw_okq (⟨"NoonJars", "refuseRow", "([LNoonJars$Row;I)I"⟩, 15) := ⟨⟨by decide +kernel, by decide +kernel⟩, List.mem_of_getElem? (i := 18) (by decide +kernel), List.mem_of_getElem? (i := 304) (by decide +kernel), List.mem_of_getElem? (i := 305) (by decide +kernel)⟩
theorem lw_p4 : lw_okq (⟨"NoonJars", "tell", "(II)I"⟩, 15) := ⟨⟨by decide +kernel, by decide +kernel⟩, List.mem_of_getElem? (i := 18) (by decide +kernel), List.mem_of_getElem? (i := 316) (by decide +kernel), List.mem_of_getElem? (i := 317) (by decide +kernel)⟩
theorem lw_p5 : lw_okq (⟨"NoonJars$Reader", "readMules", "(LNoonJars$Plan;)Z"⟩, 2) := ⟨⟨by decide +kernel, by decide +kernel⟩, List.mem_of_getElem? (i := 28) (by decide +kernel), List.mem_of_getElem? (i := 363) (by decide +kernel), List.mem_of_getElem? (i := 364) (by decide +kernel)⟩
theorem lw_p6 : lw_okq (⟨"NoonJars$Reader", "readLetter", "(C)Z"⟩, 2) := ⟨⟨by decide +kernel, by decide +kernel⟩, List.mem_of_getElem? (i := 28) (by decide +kernel), List.mem_of_getElem? (i := 367) (by decide +kernel), List.mem_of_getElem? (i := 368) (by decide +kernel)⟩
theorem lw_p7 : lw_okq (⟨"NoonJars$Reader", "skipBlanks", "()V"⟩, 2) := ⟨⟨by decide +kernel, by decide +kernel⟩, List.mem_of_getElem? (i := 28) (by decide +kernel), List.mem_of_getElem? (i := 371) (by decide +kernel), List.mem_of_getElem? (i := 372) (by decide +kernel)⟩
theorem lw_p8 : lw_okq (⟨"NoonJars$Reader", "sign", "()I"⟩, 2) := ⟨⟨by decide +kernel, by decide +kernel⟩, List.mem_of_getElem? (i := 28) (by decide +kernel), List.mem_of_getElem? (i := 375) (by decide +kernel), List.mem_of_getElem? (i := 376) (by decide +kernel)⟩
theorem lw_p9 : lw_okq (⟨"NoonJars$Reader", "figure", "()I"⟩, 2) := ⟨⟨by decide +kernel, by decide +kernel⟩, List.mem_of_getElem? (i := 28) (by decide +kernel), List.mem_of_getElem? (i := 380) (by decide +kernel), List.mem_of_getElem? (i := 381) (by decide +kernel)⟩
theorem lw_p10 : lw_okq (⟨"NoonJars$Reader", "readSuns", "(LNoonJars$Plan;)Z"⟩, 2) := ⟨⟨by decide +kernel, by decide +kernel⟩, List.mem_of_getElem? (i := 28) (by decide +kernel), List.mem_of_getElem? (i := 385) (by decide +kernel), List.mem_of_getElem? (i := 386) (by decide +kernel)⟩
theorem lw_p11 : lw_okq (⟨"NoonJars$Reader", "readNeeds", "(LNoonJars$Plan;)Z"⟩, 2) := ⟨⟨by decide +kernel, by decide +kernel⟩, List.mem_of_getElem? (i := 28) (by decide +kernel), List.mem_of_getElem? (i := 389) (by decide +kernel), List.mem_of_getElem? (i := 390) (by decide +kernel)⟩
theorem lw_p12 : lw_okq (⟨"NoonJars$Reader", "readJars", "(LNoonJars$Plan;)Z"⟩, 2) := ⟨⟨by decide +kernel, by decide +kernel⟩, List.mem_of_getElem? (i := 28) (by decide +kernel), List.mem_of_getElem? (i := 393) (by decide +kernel), List.mem_of_getElem? (i := 394) (by decide +kernel)⟩
theorem lw_p13 : lw_okq (⟨"NoonJars$Reader", "readJar", "(LNoonJars$Plan;)Z"⟩, 2) := ⟨⟨by decide +kernel, by decide +kernel⟩, List.mem_of_getElem? (i := 28) (by decide +kernel), List.mem_of_getElem? (i := 397) (by decide +kernel), List.mem_of_getElem? (i := 398) (by decide +kernel)⟩
theorem lw_p14 : lw_okq (⟨"NoonJars", "isJar", "(I)Z"⟩, 15) := ⟨⟨by decide +kernel, by decide +kernel⟩, List.mem_of_getElem? (i := 18) (by decide +kernel), List.mem_of_getElem? (i := 423) (by decide +kernel), List.mem_of_getElem? (i := 424) (by decide +kernel)⟩
theorem lw_p15 : lw_okq (⟨"NoonJars", "jarTells", "(II)I"⟩, 15) := ⟨⟨by decide +kernel, by decide +kernel⟩, List.mem_of_getElem? (i := 18) (by decide +kernel), List.mem_of_getElem? (i := 427) (by decide +kernel), List.mem_of_getElem? (i := 428) (by decide +kernel)⟩
def lw_privs_1 : List (MethodName × Nat) := [(⟨"NoonJars", "makeRow", "(LNoonJars$Row;II)I"⟩, 15), (⟨"NoonJars", "find", "(I)I"⟩, 15), (⟨"NoonJars", "refusePlace", "([LNoonJars$Row;II)I"⟩, 15), (⟨"NoonJars", "refuseRow", "([LNoonJars$Row;I)I"⟩, 15), (⟨"NoonJars", "tell", "(II)I"⟩, 15), (⟨"NoonJars$Reader", "readMules", "(LNoonJars$Plan;)Z"⟩, 2), (⟨"NoonJars$Reader", "readLetter", "(C)Z"⟩, 2), (⟨"NoonJars$Reader", "skipBlanks", "()V"⟩, 2), (⟨"NoonJars$Reader", "sign", "()I"⟩, 2), (⟨"NoonJars$Reader", "figure", "()I"⟩, 2), (⟨"NoonJars$Reader", "readSuns", "(LNoonJars$Plan;)Z"⟩, 2), (⟨"NoonJars$Reader", "readNeeds", "(LNoonJars$Plan;)Z"⟩, 2), (⟨"NoonJars$Reader", "readJars", "(LNoonJars$Plan;)Z"⟩, 2), (⟨"NoonJars$Reader", "readJar", "(LNoonJars$Plan;)Z"⟩, 2), (⟨"NoonJars", "isJar", "(I)Z"⟩, 15), (⟨"NoonJars", "jarTells", "(II)I"⟩, 15)]
theorem lw_r1 : ∀ q ∈ lw_privs_1, lw_okq q := List.forall_mem_cons.mpr ⟨lw_p0, List.forall_mem_cons.mpr ⟨lw_p1, List.forall_mem_cons.mpr ⟨lw_p2, List.forall_mem_cons.mpr ⟨lw_p3, List.forall_mem_cons.mpr ⟨lw_p4, List.forall_mem_cons.mpr ⟨lw_p5, List.forall_mem_cons.mpr ⟨lw_p6, List.forall_mem_cons.mpr ⟨lw_p7, List.forall_mem_cons.mpr ⟨lw_p8, List.forall_mem_cons.mpr ⟨lw_p9, List.forall_mem_cons.mpr ⟨lw_p10, List.forall_mem_cons.mpr ⟨lw_p11, List.forall_mem_cons.mpr ⟨lw_p12, List.forall_mem_cons.mpr ⟨lw_p13, List.forall_mem_cons.mpr ⟨lw_p14, List.forall_mem_cons.mpr ⟨lw_p15, fun _ h => absurd h List.not_mem_nil⟩⟩⟩⟩⟩⟩⟩⟩⟩⟩⟩⟩⟩⟩⟩⟩
theorem lw_p16 : lw_okq (⟨"NoonJars", "placeTells", "(II)I"⟩, 15) := ⟨⟨by decide +kernel, by decide +kernel⟩, List.mem_of_getElem? (i := 18) (by decide +kernel), List.mem_of_getElem? (i := 458) (by decide +kernel), List.mem_of_getElem? (i := 459) (by decide +kernel)⟩
theorem lw_p17 : lw_okq (⟨"NoonJars", "lightAt", "(I)I"⟩, 15) := ⟨⟨by decide +kernel, by decide +kernel⟩, List.mem_of_getElem? (i := 18) (by decide +kernel), List.mem_of_getElem? (i := 462) (by decide +kernel), List.mem_of_getElem? (i := 463) (by decide +kernel)⟩
theorem lw_p18 : lw_okq (⟨"NoonJars$Memory", "isSlot", "(I)Z"⟩, 1) := ⟨⟨by decide +kernel, by decide +kernel⟩, List.mem_of_getElem? (i := 92) (by decide +kernel), List.mem_of_getElem? (i := 486) (by decide +kernel), List.mem_of_getElem? (i := 487) (by decide +kernel)⟩
theorem lw_p19 : lw_okq (⟨"NoonJars", "leakAll", "()I"⟩, 15) := ⟨⟨by decide +kernel, by decide +kernel⟩, List.mem_of_getElem? (i := 18) (by decide +kernel), List.mem_of_getElem? (i := 520) (by decide +kernel), List.mem_of_getElem? (i := 521) (by decide +kernel)⟩
theorem lw_p20 : lw_okq (⟨"NoonJars", "countDark", "()I"⟩, 15) := ⟨⟨by decide +kernel, by decide +kernel⟩, List.mem_of_getElem? (i := 18) (by decide +kernel), List.mem_of_getElem? (i := 524) (by decide +kernel), List.mem_of_getElem? (i := 525) (by decide +kernel)⟩
theorem lw_p21 : lw_okq (⟨"NoonJars$Loads", "priceLighting", "(LNoonJars$Plan;II)V"⟩, 3) := ⟨⟨by decide +kernel, by decide +kernel⟩, List.mem_of_getElem? (i := 150) (by decide +kernel), List.mem_of_getElem? (i := 583) (by decide +kernel), List.mem_of_getElem? (i := 584) (by decide +kernel)⟩
theorem lw_p22 : lw_okq (⟨"NoonJars$Loads", "addValley", "(I)V"⟩, 3) := ⟨⟨by decide +kernel, by decide +kernel⟩, List.mem_of_getElem? (i := 150) (by decide +kernel), List.mem_of_getElem? (i := 602) (by decide +kernel), List.mem_of_getElem? (i := 603) (by decide +kernel)⟩
theorem lw_p23 : lw_okq (⟨"NoonJars", "refusePouring", "(II)I"⟩, 15) := ⟨⟨by decide +kernel, by decide +kernel⟩, List.mem_of_getElem? (i := 18) (by decide +kernel), List.mem_of_getElem? (i := 641) (by decide +kernel), List.mem_of_getElem? (i := 642) (by decide +kernel)⟩
theorem lw_p24 : lw_okq (⟨"NoonJars", "pouringsFrom", "(I)LNoonJars$Pourings;"⟩, 15) := ⟨⟨by decide +kernel, by decide +kernel⟩, List.mem_of_getElem? (i := 18) (by decide +kernel), List.mem_of_getElem? (i := 645) (by decide +kernel), List.mem_of_getElem? (i := 646) (by decide +kernel)⟩
theorem lw_p25 : lw_okq (⟨"NoonJars$Pourings", "gather", "(LNoonJars$Plan;LNoonJars$Scene;I)I"⟩, 8) := ⟨⟨by decide +kernel, by decide +kernel⟩, List.mem_of_getElem? (i := 649) (by decide +kernel), List.mem_of_getElem? (i := 685) (by decide +kernel), List.mem_of_getElem? (i := 686) (by decide +kernel)⟩
theorem lw_p26 : lw_okq (⟨"NoonJars$Pourings", "comeTo", "(III)V"⟩, 8) := ⟨⟨by decide +kernel, by decide +kernel⟩, List.mem_of_getElem? (i := 649) (by decide +kernel), List.mem_of_getElem? (i := 691) (by decide +kernel), List.mem_of_getElem? (i := 692) (by decide +kernel)⟩
theorem lw_p27 : lw_okq (⟨"NoonJars$Pourings", "pourFrom", "(I)V"⟩, 8) := ⟨⟨by decide +kernel, by decide +kernel⟩, List.mem_of_getElem? (i := 649) (by decide +kernel), List.mem_of_getElem? (i := 696) (by decide +kernel), List.mem_of_getElem? (i := 697) (by decide +kernel)⟩
theorem lw_p28 : lw_okq (⟨"NoonJars$Pourings", "slotOf", "(I)I"⟩, 8) := ⟨⟨by decide +kernel, by decide +kernel⟩, List.mem_of_getElem? (i := 649) (by decide +kernel), List.mem_of_getElem? (i := 709) (by decide +kernel), List.mem_of_getElem? (i := 710) (by decide +kernel)⟩
theorem lw_p29 : lw_okq (⟨"NoonJars$Burnings", "canBe", "(ILNoonJars$Plan;)Z"⟩, 6) := ⟨⟨by decide +kernel, by decide +kernel⟩, List.mem_of_getElem? (i := 121) (by decide +kernel), List.mem_of_getElem? (i := 771) (by decide +kernel), List.mem_of_getElem? (i := 772) (by decide +kernel)⟩
theorem lw_p30 : lw_okq (⟨"NoonJars", "doLot", "(II)I"⟩, 15) := ⟨⟨by decide +kernel, by decide +kernel⟩, List.mem_of_getElem? (i := 18) (by decide +kernel), List.mem_of_getElem? (i := 836) (by decide +kernel), List.mem_of_getElem? (i := 837) (by decide +kernel)⟩
theorem lw_p31 : lw_okq (⟨"NoonJars", "allLight", "()I"⟩, 15) := ⟨⟨by decide +kernel, by decide +kernel⟩, List.mem_of_getElem? (i := 18) (by decide +kernel), List.mem_of_getElem? (i := 853) (by decide +kernel), List.mem_of_getElem? (i := 854) (by decide +kernel)⟩
def lw_privs_2 : List (MethodName × Nat) := [(⟨"NoonJars", "placeTells", "(II)I"⟩, 15), (⟨"NoonJars", "lightAt", "(I)I"⟩, 15), (⟨"NoonJars$Memory", "isSlot", "(I)Z"⟩, 1), (⟨"NoonJars", "leakAll", "()I"⟩, 15), (⟨"NoonJars", "countDark", "()I"⟩, 15), (⟨"NoonJars$Loads", "priceLighting", "(LNoonJars$Plan;II)V"⟩, 3), (⟨"NoonJars$Loads", "addValley", "(I)V"⟩, 3), (⟨"NoonJars", "refusePouring", "(II)I"⟩, 15), (⟨"NoonJars", "pouringsFrom", "(I)LNoonJars$Pourings;"⟩, 15), (⟨"NoonJars$Pourings", "gather", "(LNoonJars$Plan;LNoonJars$Scene;I)I"⟩, 8), (⟨"NoonJars$Pourings", "comeTo", "(III)V"⟩, 8), (⟨"NoonJars$Pourings", "pourFrom", "(I)V"⟩, 8), (⟨"NoonJars$Pourings", "slotOf", "(I)I"⟩, 8), (⟨"NoonJars$Burnings", "canBe", "(ILNoonJars$Plan;)Z"⟩, 6), (⟨"NoonJars", "doLot", "(II)I"⟩, 15), (⟨"NoonJars", "allLight", "()I"⟩, 15)]
theorem lw_r2 : ∀ q ∈ lw_privs_2, lw_okq q := List.forall_mem_cons.mpr ⟨lw_p16, List.forall_mem_cons.mpr ⟨lw_p17, List.forall_mem_cons.mpr ⟨lw_p18, List.forall_mem_cons.mpr ⟨lw_p19, List.forall_mem_cons.mpr ⟨lw_p20, List.forall_mem_cons.mpr ⟨lw_p21, List.forall_mem_cons.mpr ⟨lw_p22, List.forall_mem_cons.mpr ⟨lw_p23, List.forall_mem_cons.mpr ⟨lw_p24, List.forall_mem_cons.mpr ⟨lw_p25, List.forall_mem_cons.mpr ⟨lw_p26, List.forall_mem_cons.mpr ⟨lw_p27, List.forall_mem_cons.mpr ⟨lw_p28, List.forall_mem_cons.mpr ⟨lw_p29, List.forall_mem_cons.mpr ⟨lw_p30, List.forall_mem_cons.mpr ⟨lw_p31, fun _ h => absurd h List.not_mem_nil⟩⟩⟩⟩⟩⟩⟩⟩⟩⟩⟩⟩⟩⟩⟩⟩
theorem lw_p32 : lw_okq (⟨"NoonJarsModel", "meets", "(I)I"⟩, 47) := ⟨⟨by decide +kernel, by decide +kernel⟩, List.mem_of_getElem? (i := 898) (by decide +kernel), List.mem_of_getElem? (i := 1070) (by decide +kernel), List.mem_of_getElem? (i := 1071) (by decide +kernel)⟩
theorem lw_p33 : lw_okq (⟨"NoonJarsModel", "rowAt", "(II)I"⟩, 47) := ⟨⟨by decide +kernel, by decide +kernel⟩, List.mem_of_getElem? (i := 898) (by decide +kernel), List.mem_of_getElem? (i := 1078) (by decide +kernel), List.mem_of_getElem? (i := 1079) (by decide +kernel)⟩
theorem lw_p34 : lw_okq (⟨"NoonJarsModel", "tells", "(II)I"⟩, 47) := ⟨⟨by decide +kernel, by decide +kernel⟩, List.mem_of_getElem? (i := 898) (by decide +kernel), List.mem_of_getElem? (i := 1082) (by decide +kernel), List.mem_of_getElem? (i := 1083) (by decide +kernel)⟩
theorem lw_p35 : lw_okq (⟨"NoonJarsModel", "faultOf", "(I)I"⟩, 47) := ⟨⟨by decide +kernel, by decide +kernel⟩, List.mem_of_getElem? (i := 898) (by decide +kernel), List.mem_of_getElem? (i := 1117) (by decide +kernel), List.mem_of_getElem? (i := 1118) (by decide +kernel)⟩
theorem lw_p36 : lw_okq (⟨"NoonJarsModel", "byteAt", "(II)I"⟩, 47) := ⟨⟨by decide +kernel, by decide +kernel⟩, List.mem_of_getElem? (i := 898) (by decide +kernel), List.mem_of_getElem? (i := 1121) (by decide +kernel), List.mem_of_getElem? (i := 1122) (by decide +kernel)⟩
theorem lw_p37 : lw_okq (⟨"NoonJarsModel", "readsMules", "(I)Z"⟩, 47) := ⟨⟨by decide +kernel, by decide +kernel⟩, List.mem_of_getElem? (i := 898) (by decide +kernel), List.mem_of_getElem? (i := 1125) (by decide +kernel), List.mem_of_getElem? (i := 1126) (by decide +kernel)⟩
theorem lw_p38 : lw_okq (⟨"NoonJarsModel", "isSign", "(II)Z"⟩, 47) := ⟨⟨by decide +kernel, by decide +kernel⟩, List.mem_of_getElem? (i := 898) (by decide +kernel), List.mem_of_getElem? (i := 1129) (by decide +kernel), List.mem_of_getElem? (i := 1130) (by decide +kernel)⟩
theorem lw_p39 : lw_okq (⟨"NoonJarsModel", "figure", "(III)Z"⟩, 47) := ⟨⟨by decide +kernel, by decide +kernel⟩, List.mem_of_getElem? (i := 898) (by decide +kernel), List.mem_of_getElem? (i := 1133) (by decide +kernel), List.mem_of_getElem? (i := 1134) (by decide +kernel)⟩
theorem lw_p40 : lw_okq (⟨"NoonJarsModel", "readsSuns", "(I)Z"⟩, 47) := ⟨⟨by decide +kernel, by decide +kernel⟩, List.mem_of_getElem? (i := 898) (by decide +kernel), List.mem_of_getElem? (i := 1137) (by decide +kernel), List.mem_of_getElem? (i := 1138) (by decide +kernel)⟩
theorem lw_p41 : lw_okq (⟨"NoonJarsModel", "readsNeeds", "(I)Z"⟩, 47) := ⟨⟨by decide +kernel, by decide +kernel⟩, List.mem_of_getElem? (i := 898) (by decide +kernel), List.mem_of_getElem? (i := 1141) (by decide +kernel), List.mem_of_getElem? (i := 1142) (by decide +kernel)⟩
theorem lw_p42 : lw_okq (⟨"NoonJarsModel", "readsJar", "(I)Z"⟩, 47) := ⟨⟨by decide +kernel, by decide +kernel⟩, List.mem_of_getElem? (i := 898) (by decide +kernel), List.mem_of_getElem? (i := 1145) (by decide +kernel), List.mem_of_getElem? (i := 1146) (by decide +kernel)⟩
theorem lw_p43 : lw_okq (⟨"NoonJarsModel", "isJar", "(I)Z"⟩, 47) := ⟨⟨by decide +kernel, by decide +kernel⟩, List.mem_of_getElem? (i := 898) (by decide +kernel), List.mem_of_getElem? (i := 1160) (by decide +kernel), List.mem_of_getElem? (i := 1161) (by decide +kernel)⟩
theorem lw_p44 : lw_okq (⟨"NoonJarsModel", "jarTells", "(II)I"⟩, 47) := ⟨⟨by decide +kernel, by decide +kernel⟩, List.mem_of_getElem? (i := 898) (by decide +kernel), List.mem_of_getElem? (i := 1164) (by decide +kernel), List.mem_of_getElem? (i := 1165) (by decide +kernel)⟩
theorem lw_p45 : lw_okq (⟨"NoonJarsModel", "leakNow", "(I)I"⟩, 47) := ⟨⟨by decide +kernel, by decide +kernel⟩, List.mem_of_getElem? (i := 898) (by decide +kernel), List.mem_of_getElem? (i := 1175) (by decide +kernel), List.mem_of_getElem? (i := 1176) (by decide +kernel)⟩
theorem lw_p46 : lw_okq (⟨"NoonJarsModel", "placeTells", "(II)I"⟩, 47) := ⟨⟨by decide +kernel, by decide +kernel⟩, List.mem_of_getElem? (i := 898) (by decide +kernel), List.mem_of_getElem? (i := 1192) (by decide +kernel), List.mem_of_getElem? (i := 1193) (by decide +kernel)⟩
theorem lw_p47 : lw_okq (⟨"NoonJarsModel", "lightAt", "(I)I"⟩, 47) := ⟨⟨by decide +kernel, by decide +kernel⟩, List.mem_of_getElem? (i := 898) (by decide +kernel), List.mem_of_getElem? (i := 1196) (by decide +kernel), List.mem_of_getElem? (i := 1197) (by decide +kernel)⟩
def lw_privs_3 : List (MethodName × Nat) := [(⟨"NoonJarsModel", "meets", "(I)I"⟩, 47), (⟨"NoonJarsModel", "rowAt", "(II)I"⟩, 47), (⟨"NoonJarsModel", "tells", "(II)I"⟩, 47), (⟨"NoonJarsModel", "faultOf", "(I)I"⟩, 47), (⟨"NoonJarsModel", "byteAt", "(II)I"⟩, 47), (⟨"NoonJarsModel", "readsMules", "(I)Z"⟩, 47), (⟨"NoonJarsModel", "isSign", "(II)Z"⟩, 47), (⟨"NoonJarsModel", "figure", "(III)Z"⟩, 47), (⟨"NoonJarsModel", "readsSuns", "(I)Z"⟩, 47), (⟨"NoonJarsModel", "readsNeeds", "(I)Z"⟩, 47), (⟨"NoonJarsModel", "readsJar", "(I)Z"⟩, 47), (⟨"NoonJarsModel", "isJar", "(I)Z"⟩, 47), (⟨"NoonJarsModel", "jarTells", "(II)I"⟩, 47), (⟨"NoonJarsModel", "leakNow", "(I)I"⟩, 47), (⟨"NoonJarsModel", "placeTells", "(II)I"⟩, 47), (⟨"NoonJarsModel", "lightAt", "(I)I"⟩, 47)]
theorem lw_r3 : ∀ q ∈ lw_privs_3, lw_okq q := List.forall_mem_cons.mpr ⟨lw_p32, List.forall_mem_cons.mpr ⟨lw_p33, List.forall_mem_cons.mpr ⟨lw_p34, List.forall_mem_cons.mpr ⟨lw_p35, List.forall_mem_cons.mpr ⟨lw_p36, List.forall_mem_cons.mpr ⟨lw_p37, List.forall_mem_cons.mpr ⟨lw_p38, List.forall_mem_cons.mpr ⟨lw_p39, List.forall_mem_cons.mpr ⟨lw_p40, List.forall_mem_cons.mpr ⟨lw_p41, List.forall_mem_cons.mpr ⟨lw_p42, List.forall_mem_cons.mpr ⟨lw_p43, List.forall_mem_cons.mpr ⟨lw_p44, List.forall_mem_cons.mpr ⟨lw_p45, List.forall_mem_cons.mpr ⟨lw_p46, List.forall_mem_cons.mpr ⟨lw_p47, fun _ h => absurd h List.not_mem_nil⟩⟩⟩⟩⟩⟩⟩⟩⟩⟩⟩⟩⟩⟩⟩⟩
theorem lw_p48 : lw_okq (⟨"NoonJarsModel", "shines", "(I)Z"⟩, 47) := ⟨⟨by decide +kernel, by decide +kernel⟩, List.mem_of_getElem? (i := 898) (by decide +kernel), List.mem_of_getElem? (i := 1204) (by decide +kernel), List.mem_of_getElem? (i := 1205) (by decide +kernel)⟩
theorem lw_p49 : lw_okq (⟨"NoonJarsModel", "remembers", "(I)V"⟩, 47) := ⟨⟨by decide +kernel, by decide +kernel⟩, List.mem_of_getElem? (i := 898) (by decide +kernel), List.mem_of_getElem? (i := 1212) (by decide +kernel), List.mem_of_getElem? (i := 1213) (by decide +kernel)⟩
theorem lw_p50 : lw_okq (⟨"NoonJarsModel", "hoursAt", "(II)I"⟩, 47) := ⟨⟨by decide +kernel, by decide +kernel⟩, List.mem_of_getElem? (i := 898) (by decide +kernel), List.mem_of_getElem? (i := 1255) (by decide +kernel), List.mem_of_getElem? (i := 1256) (by decide +kernel)⟩
theorem lw_p51 : lw_okq (⟨"NoonJarsModel", "broughtTo", "(II)I"⟩, 47) := ⟨⟨by decide +kernel, by decide +kernel⟩, List.mem_of_getElem? (i := 898) (by decide +kernel), List.mem_of_getElem? (i := 1259) (by decide +kernel), List.mem_of_getElem? (i := 1260) (by decide +kernel)⟩
theorem lw_p52 : lw_okq (⟨"NoonJarsModel", "lit", "(I)I"⟩, 47) := ⟨⟨by decide +kernel, by decide +kernel⟩, List.mem_of_getElem? (i := 898) (by decide +kernel), List.mem_of_getElem? (i := 1271) (by decide +kernel), List.mem_of_getElem? (i := 1272) (by decide +kernel)⟩
theorem lw_p53 : lw_okq (⟨"NoonJarsModel", "needStates", "(ZI)I"⟩, 47) := ⟨⟨by decide +kernel, by decide +kernel⟩, List.mem_of_getElem? (i := 898) (by decide +kernel), List.mem_of_getElem? (i := 1299) (by decide +kernel), List.mem_of_getElem? (i := 1300) (by decide +kernel)⟩
theorem lw_p54 : lw_okq (⟨"NoonJarsModel", "layHere", "(I)V"⟩, 47) := ⟨⟨by decide +kernel, by decide +kernel⟩, List.mem_of_getElem? (i := 898) (by decide +kernel), List.mem_of_getElem? (i := 1303) (by decide +kernel), List.mem_of_getElem? (i := 1304) (by decide +kernel)⟩
theorem lw_p55 : lw_okq (⟨"NoonJarsModel", "layStates", "()V"⟩, 47) := ⟨⟨by decide +kernel, by decide +kernel⟩, List.mem_of_getElem? (i := 898) (by decide +kernel), List.mem_of_getElem? (i := 1307) (by decide +kernel), List.mem_of_getElem? (i := 1308) (by decide +kernel)⟩
theorem lw_p56 : lw_okq (⟨"NoonJarsModel", "code", "()I"⟩, 47) := ⟨⟨by decide +kernel, by decide +kernel⟩, List.mem_of_getElem? (i := 898) (by decide +kernel), List.mem_of_getElem? (i := 1311) (by decide +kernel), List.mem_of_getElem? (i := 1312) (by decide +kernel)⟩
theorem lw_p57 : lw_okq (⟨"NoonJarsModel", "look", "(I)V"⟩, 47) := ⟨⟨by decide +kernel, by decide +kernel⟩, List.mem_of_getElem? (i := 898) (by decide +kernel), List.mem_of_getElem? (i := 1315) (by decide +kernel), List.mem_of_getElem? (i := 1316) (by decide +kernel)⟩
theorem lw_p58 : lw_okq (⟨"NoonJarsModel", "step", "(III)V"⟩, 47) := ⟨⟨by decide +kernel, by decide +kernel⟩, List.mem_of_getElem? (i := 898) (by decide +kernel), List.mem_of_getElem? (i := 1319) (by decide +kernel), List.mem_of_getElem? (i := 1320) (by decide +kernel)⟩
theorem lw_p59 : lw_okq (⟨"NoonJarsModel", "firstState", "(II)I"⟩, 47) := ⟨⟨by decide +kernel, by decide +kernel⟩, List.mem_of_getElem? (i := 898) (by decide +kernel), List.mem_of_getElem? (i := 1323) (by decide +kernel), List.mem_of_getElem? (i := 1324) (by decide +kernel)⟩
theorem lw_p60 : lw_okq (⟨"NoonJarsModel", "holds", "(III)Z"⟩, 47) := ⟨⟨by decide +kernel, by decide +kernel⟩, List.mem_of_getElem? (i := 898) (by decide +kernel), List.mem_of_getElem? (i := 1327) (by decide +kernel), List.mem_of_getElem? (i := 1328) (by decide +kernel)⟩
theorem lw_p61 : lw_okq (⟨"NoonJarsModel", "sumOf", "(I)I"⟩, 47) := ⟨⟨by decide +kernel, by decide +kernel⟩, List.mem_of_getElem? (i := 898) (by decide +kernel), List.mem_of_getElem? (i := 1331) (by decide +kernel), List.mem_of_getElem? (i := 1332) (by decide +kernel)⟩
theorem lw_p62 : lw_okq (⟨"NoonJarsModel", "fits", "(I)Z"⟩, 47) := ⟨⟨by decide +kernel, by decide +kernel⟩, List.mem_of_getElem? (i := 898) (by decide +kernel), List.mem_of_getElem? (i := 1362) (by decide +kernel), List.mem_of_getElem? (i := 1363) (by decide +kernel)⟩
theorem lw_p63 : lw_okq (⟨"NoonJarsModel", "burns", "(II)I"⟩, 47) := ⟨⟨by decide +kernel, by decide +kernel⟩, List.mem_of_getElem? (i := 898) (by decide +kernel), List.mem_of_getElem? (i := 1366) (by decide +kernel), List.mem_of_getElem? (i := 1367) (by decide +kernel)⟩
def lw_privs_4 : List (MethodName × Nat) := [(⟨"NoonJarsModel", "shines", "(I)Z"⟩, 47), (⟨"NoonJarsModel", "remembers", "(I)V"⟩, 47), (⟨"NoonJarsModel", "hoursAt", "(II)I"⟩, 47), (⟨"NoonJarsModel", "broughtTo", "(II)I"⟩, 47), (⟨"NoonJarsModel", "lit", "(I)I"⟩, 47), (⟨"NoonJarsModel", "needStates", "(ZI)I"⟩, 47), (⟨"NoonJarsModel", "layHere", "(I)V"⟩, 47), (⟨"NoonJarsModel", "layStates", "()V"⟩, 47), (⟨"NoonJarsModel", "code", "()I"⟩, 47), (⟨"NoonJarsModel", "look", "(I)V"⟩, 47), (⟨"NoonJarsModel", "step", "(III)V"⟩, 47), (⟨"NoonJarsModel", "firstState", "(II)I"⟩, 47), (⟨"NoonJarsModel", "holds", "(III)Z"⟩, 47), (⟨"NoonJarsModel", "sumOf", "(I)I"⟩, 47), (⟨"NoonJarsModel", "fits", "(I)Z"⟩, 47), (⟨"NoonJarsModel", "burns", "(II)I"⟩, 47)]
theorem lw_r4 : ∀ q ∈ lw_privs_4, lw_okq q := List.forall_mem_cons.mpr ⟨lw_p48, List.forall_mem_cons.mpr ⟨lw_p49, List.forall_mem_cons.mpr ⟨lw_p50, List.forall_mem_cons.mpr ⟨lw_p51, List.forall_mem_cons.mpr ⟨lw_p52, List.forall_mem_cons.mpr ⟨lw_p53, List.forall_mem_cons.mpr ⟨lw_p54, List.forall_mem_cons.mpr ⟨lw_p55, List.forall_mem_cons.mpr ⟨lw_p56, List.forall_mem_cons.mpr ⟨lw_p57, List.forall_mem_cons.mpr ⟨lw_p58, List.forall_mem_cons.mpr ⟨lw_p59, List.forall_mem_cons.mpr ⟨lw_p60, List.forall_mem_cons.mpr ⟨lw_p61, List.forall_mem_cons.mpr ⟨lw_p62, List.forall_mem_cons.mpr ⟨lw_p63, fun _ h => absurd h List.not_mem_nil⟩⟩⟩⟩⟩⟩⟩⟩⟩⟩⟩⟩⟩⟩⟩⟩
theorem lw_p64 : lw_okq (⟨"NoonJarsModel", "leftBy", "(I)I"⟩, 47) := ⟨⟨by decide +kernel, by decide +kernel⟩, List.mem_of_getElem? (i := 898) (by decide +kernel), List.mem_of_getElem? (i := 1378) (by decide +kernel), List.mem_of_getElem? (i := 1379) (by decide +kernel)⟩
theorem lw_p65 : lw_okq (⟨"NoonJarsModel", "lightAll", "()I"⟩, 47) := ⟨⟨by decide +kernel, by decide +kernel⟩, List.mem_of_getElem? (i := 898) (by decide +kernel), List.mem_of_getElem? (i := 1412) (by decide +kernel), List.mem_of_getElem? (i := 1413) (by decide +kernel)⟩
theorem lw_p66 : lw_okq (⟨"NoonJarsModel", "common", "()I"⟩, 47) := ⟨⟨by decide +kernel, by decide +kernel⟩, List.mem_of_getElem? (i := 898) (by decide +kernel), List.mem_of_getElem? (i := 1416) (by decide +kernel), List.mem_of_getElem? (i := 1417) (by decide +kernel)⟩
theorem lw_p67 : lw_okq (⟨"NoonJarsModel", "sizeAll", "()I"⟩, 47) := ⟨⟨by decide +kernel, by decide +kernel⟩, List.mem_of_getElem? (i := 898) (by decide +kernel), List.mem_of_getElem? (i := 1420) (by decide +kernel), List.mem_of_getElem? (i := 1421) (by decide +kernel)⟩
theorem lw_p68 : lw_okq (⟨"NoonJarsModel", "counted", "(I)I"⟩, 47) := ⟨⟨by decide +kernel, by decide +kernel⟩, List.mem_of_getElem? (i := 898) (by decide +kernel), List.mem_of_getElem? (i := 1432) (by decide +kernel), List.mem_of_getElem? (i := 1433) (by decide +kernel)⟩
theorem lw_p69 : lw_okq (⟨"NoonJarsModel", "mix", "(J)V"⟩, 47) := ⟨⟨by decide +kernel, by decide +kernel⟩, List.mem_of_getElem? (i := 898) (by decide +kernel), List.mem_of_getElem? (i := 1441) (by decide +kernel), List.mem_of_getElem? (i := 1442) (by decide +kernel)⟩
theorem lw_p70 : lw_okq (⟨"NoonJarsModel", "mixLand", "()V"⟩, 47) := ⟨⟨by decide +kernel, by decide +kernel⟩, List.mem_of_getElem? (i := 898) (by decide +kernel), List.mem_of_getElem? (i := 1446) (by decide +kernel), List.mem_of_getElem? (i := 1447) (by decide +kernel)⟩
def lw_privs_5 : List (MethodName × Nat) := [(⟨"NoonJarsModel", "leftBy", "(I)I"⟩, 47), (⟨"NoonJarsModel", "lightAll", "()I"⟩, 47), (⟨"NoonJarsModel", "common", "()I"⟩, 47), (⟨"NoonJarsModel", "sizeAll", "()I"⟩, 47), (⟨"NoonJarsModel", "counted", "(I)I"⟩, 47), (⟨"NoonJarsModel", "mix", "(J)V"⟩, 47), (⟨"NoonJarsModel", "mixLand", "()V"⟩, 47)]
theorem lw_r5 : ∀ q ∈ lw_privs_5, lw_okq q := List.forall_mem_cons.mpr ⟨lw_p64, List.forall_mem_cons.mpr ⟨lw_p65, List.forall_mem_cons.mpr ⟨lw_p66, List.forall_mem_cons.mpr ⟨lw_p67, List.forall_mem_cons.mpr ⟨lw_p68, List.forall_mem_cons.mpr ⟨lw_p69, List.forall_mem_cons.mpr ⟨lw_p70, fun _ h => absurd h List.not_mem_nil⟩⟩⟩⟩⟩⟩⟩
def lw_privs : List (MethodName × Nat) := lw_privs_1 ++ (lw_privs_2 ++ (lw_privs_3 ++ (lw_privs_4 ++ (lw_privs_5))))
def lw_tbl : List Cond := k2_sels lw_privs ++ tables_1
theorem lw_privs_ok : ∀ q ∈ lw_privs, lw_okq q := by
  show ∀ q ∈ lw_privs_1 ++ (lw_privs_2 ++ (lw_privs_3 ++ (lw_privs_4 ++ (lw_privs_5)))), lw_okq q
  exact List.forall_mem_append.mpr ⟨lw_r1, List.forall_mem_append.mpr ⟨lw_r2, List.forall_mem_append.mpr ⟨lw_r3, List.forall_mem_append.mpr ⟨lw_r4, lw_r5⟩⟩⟩⟩
end
section
def RX0 : String := "NoonJars$Burnings"
def TX0 : u_T := fun k => match k with
  | 0 => ("NoonJars$Burnings", "sets", "[I", true)
  | 1 => ("NoonJars$Burnings", "hours", "[I", true)
  | 2 => ("NoonJars$Burnings", "possible", "[I", true)
  | 3 => ("NoonJars$Burnings", "tally", "[I", true)
  | 4 => ("NoonJars$Burnings", "size", "I", false)
  | _ => ("NoonJars$Burnings", "possibleCount", "I", false)
def tyX0 : Nat → FieldType := fun k => match k with
  | 0 => .array .int
  | 1 => .array .int
  | 2 => .array .int
  | 3 => .array .int
  | 4 => .int
  | _ => .int
abbrev wsX00 : List Cond := u_ws RX0 TX0 6
theorem nmX0 : ∀ a, a < 6 → ∀ b, b < 6 → a ≠ b → (TX0 a).2.1 ≠ (TX0 b).2.1 := by decide +kernel
theorem tyX0_ok : ∀ k, k < 6 → parseFieldDescriptor (TX0 k).2.2.1 = some (tyX0 k) := by decide +kernel
abbrev cX0_init : ByteArray := prog_2_method_1_code
def yX0_init : MethodName := ⟨RX0, "<init>", "()V"⟩
abbrev cX0_add : ByteArray := prog_2_method_2_code
def yX0_add : MethodName := ⟨RX0, "add", "(II)I"⟩
abbrev cX0_gather : ByteArray := prog_2_method_3_code
def yX0_gather : MethodName := ⟨RX0, "gather", "(LNoonJars$Plan;)I"⟩
abbrev cX0_inAll : ByteArray := prog_2_method_4_code
def yX0_inAll : MethodName := ⟨RX0, "inAll", "()I"⟩
abbrev cX0_inAny : ByteArray := prog_2_method_5_code
def yX0_inAny : MethodName := ⟨RX0, "inAny", "()I"⟩
abbrev cX0_nextToBurn : ByteArray := prog_2_method_6_code
def yX0_nextToBurn : MethodName := ⟨RX0, "nextToBurn", "(LNoonJars$Plan;)I"⟩
abbrev cX0_mostLeft : ByteArray := prog_2_method_7_code
def yX0_mostLeft : MethodName := ⟨RX0, "mostLeft", "(ILNoonJars$Plan;)I"⟩
abbrev cX0_canBe : ByteArray := prog_2_method_8_code
def yX0_canBe : MethodName := ⟨RX0, "canBe", "(ILNoonJars$Plan;)Z"⟩
abbrev cX0_burningTime : ByteArray := prog_2_method_9_code
def yX0_burningTime : MethodName := ⟨RX0, "burningTime", "(IILNoonJars$Plan;)I"⟩
def RX1 : String := "NoonJars$Deeds"
def TX1 : u_T := fun k => match k with
  | 0 => ("NoonJars$Deeds", "scenes", "LNoonJars$Memory;", true)
  | 1 => ("NoonJars$Deeds", "sorts", "[I", true)
  | 2 => ("NoonJars$Deeds", "first", "I", false)
  | _ => ("NoonJars$Deeds", "size", "I", false)
def tyX1 : Nat → FieldType := fun k => match k with
  | 0 => .object "NoonJars$Memory"
  | 1 => .array .int
  | 2 => .int
  | _ => .int
abbrev wsX10 : List Cond := u_ws RX1 TX1 4
theorem nmX1 : ∀ a, a < 4 → ∀ b, b < 4 → a ≠ b → (TX1 a).2.1 ≠ (TX1 b).2.1 := by decide +kernel
theorem tyX1_ok : ∀ k, k < 4 → parseFieldDescriptor (TX1 k).2.2.1 = some (tyX1 k) := by decide +kernel
abbrev cX1_init : ByteArray := prog_3_method_1_code
def yX1_init : MethodName := ⟨RX1, "<init>", "()V"⟩
abbrev cX1_clear : ByteArray := prog_3_method_2_code
def yX1_clear : MethodName := ⟨RX1, "clear", "()V"⟩
abbrev cX1_remember : ByteArray := prog_3_method_3_code
def yX1_remember : MethodName := ⟨RX1, "remember", "(ILNoonJars$Scene;)V"⟩
abbrev cX1_takeBack : ByteArray := prog_3_method_4_code
def yX1_takeBack : MethodName := ⟨RX1, "takeBack", "(LNoonJars$Scene;)I"⟩
def RX2 : String := "NoonJars$Kinds"
def TX2 : u_T := fun k => match k with
  | _ => ("", "", "", false)
def tyX2 : Nat → FieldType := fun k => match k with
  | _ => .int
abbrev wsX20 : List Cond := u_ws RX2 TX2 0
theorem nmX2 : ∀ a, a < 0 → ∀ b, b < 0 → a ≠ b → (TX2 a).2.1 ≠ (TX2 b).2.1 := by decide +kernel
theorem tyX2_ok : ∀ k, k < 0 → parseFieldDescriptor (TX2 k).2.2.1 = some (tyX2 k) := by decide +kernel
abbrev cX2_byLetter : ByteArray := prog_4_method_2_code
def yX2_byLetter : MethodName := ⟨RX2, "byLetter", "(I)I"⟩
abbrev cX2_is : ByteArray := prog_4_method_3_code
def yX2_is : MethodName := ⟨RX2, "is", "(II)Z"⟩
abbrev cX2_leaked : ByteArray := prog_4_method_4_code
def yX2_leaked : MethodName := ⟨RX2, "leaked", "(IIZ)I"⟩
abbrev cX2_anHour : ByteArray := prog_4_method_5_code
def yX2_anHour : MethodName := ⟨RX2, "anHour", "(I)I"⟩
abbrev cX2_hours : ByteArray := prog_4_method_6_code
def yX2_hours : MethodName := ⟨RX2, "hours", "(II)I"⟩
abbrev cX2_taken : ByteArray := prog_4_method_7_code
def yX2_taken : MethodName := ⟨RX2, "taken", "(II)I"⟩
abbrev cX2_comesOver : ByteArray := prog_4_method_8_code
def yX2_comesOver : MethodName := ⟨RX2, "comesOver", "(I)I"⟩
abbrev cX2_leastAheadOfNight : ByteArray := prog_4_method_9_code
def yX2_leastAheadOfNight : MethodName := ⟨RX2, "leastAheadOfNight", "(I)I"⟩
abbrev cX2_tenthsUp : ByteArray := prog_4_method_10_code
def yX2_tenthsUp : MethodName := ⟨RX2, "tenthsUp", "(I)I"⟩
def RX3 : String := "NoonJars$Loads"
def TX3 : u_T := fun k => match k with
  | 0 => ("NoonJars$Loads", "cheapest", "[I", true)
  | 1 => ("NoonJars$Loads", "lighting", "[I", true)
  | _ => ("NoonJars$Loads", "price", "I", false)
def tyX3 : Nat → FieldType := fun k => match k with
  | 0 => .array .int
  | 1 => .array .int
  | _ => .int
abbrev wsX30 : List Cond := u_ws RX3 TX3 3
theorem nmX3 : ∀ a, a < 3 → ∀ b, b < 3 → a ≠ b → (TX3 a).2.1 ≠ (TX3 b).2.1 := by decide +kernel
theorem tyX3_ok : ∀ k, k < 3 → parseFieldDescriptor (TX3 k).2.2.1 = some (tyX3 k) := by decide +kernel
abbrev cX3_init : ByteArray := prog_5_method_1_code
def yX3_init : MethodName := ⟨RX3, "<init>", "()V"⟩
abbrev cX3_choose : ByteArray := prog_5_method_2_code
def yX3_choose : MethodName := ⟨RX3, "choose", "(LNoonJars$Plan;)V"⟩
abbrev cX3_litValleys : ByteArray := prog_5_method_3_code
def yX3_litValleys : MethodName := ⟨RX3, "litValleys", "()I"⟩
abbrev cX3_figures : ByteArray := prog_5_method_4_code
def yX3_figures : MethodName := ⟨RX3, "figures", "()I"⟩
abbrev cX3_priceLighting : ByteArray := prog_5_method_5_code
def yX3_priceLighting : MethodName := ⟨RX3, "priceLighting", "(LNoonJars$Plan;II)V"⟩
abbrev cX3_figuresOf : ByteArray := prog_5_method_6_code
def yX3_figuresOf : MethodName := ⟨RX3, "figuresOf", "(LNoonJars$Plan;II)I"⟩
abbrev cX3_addValley : ByteArray := prog_5_method_7_code
def yX3_addValley : MethodName := ⟨RX3, "addValley", "(I)V"⟩
def RX4 : String := "NoonJars$Memory"
def TX4 : u_T := fun k => match k with
  | _ => ("NoonJars$Memory", "all", "[I", true)
def tyX4 : Nat → FieldType := fun k => match k with
  | _ => .array .int
abbrev wsX40 : List Cond := u_ws RX4 TX4 1
theorem nmX4 : ∀ a, a < 1 → ∀ b, b < 1 → a ≠ b → (TX4 a).2.1 ≠ (TX4 b).2.1 := by decide +kernel
theorem tyX4_ok : ∀ k, k < 1 → parseFieldDescriptor (TX4 k).2.2.1 = some (tyX4 k) := by decide +kernel
abbrev cX4_init : ByteArray := prog_6_method_1_code
def yX4_init : MethodName := ⟨RX4, "<init>", "(I)V"⟩
abbrev cX4_save : ByteArray := prog_6_method_2_code
def yX4_save : MethodName := ⟨RX4, "save", "(ILNoonJars$Scene;)V"⟩
abbrev cX4_recall : ByteArray := prog_6_method_3_code
def yX4_recall : MethodName := ⟨RX4, "recall", "(ILNoonJars$Scene;)V"⟩
abbrev cX4_isSlot : ByteArray := prog_6_method_4_code
def yX4_isSlot : MethodName := ⟨RX4, "isSlot", "(I)Z"⟩
def RX5 : String := "NoonJars$Plan"
def TX5 : u_T := fun k => match k with
  | 0 => ("NoonJars$Plan", "mules", "I", false)
  | 1 => ("NoonJars$Plan", "sunCount", "I", false)
  | 2 => ("NoonJars$Plan", "jarCount", "I", false)
  | 3 => ("NoonJars$Plan", "suns", "[I", true)
  | 4 => ("NoonJars$Plan", "needs", "[I", true)
  | 5 => ("NoonJars$Plan", "kinds", "[I", true)
  | _ => ("NoonJars$Plan", "sizes", "[I", true)
def tyX5 : Nat → FieldType := fun k => match k with
  | 0 => .int
  | 1 => .int
  | 2 => .int
  | 3 => .array .int
  | 4 => .array .int
  | 5 => .array .int
  | _ => .array .int
abbrev wsX50 : List Cond := u_ws RX5 TX5 7
theorem nmX5 : ∀ a, a < 7 → ∀ b, b < 7 → a ≠ b → (TX5 a).2.1 ≠ (TX5 b).2.1 := by decide +kernel
theorem tyX5_ok : ∀ k, k < 7 → parseFieldDescriptor (TX5 k).2.2.1 = some (tyX5 k) := by decide +kernel
abbrev cX5_init : ByteArray := prog_7_method_1_code
def yX5_init : MethodName := ⟨RX5, "<init>", "()V"⟩
abbrev cX5_isBright : ByteArray := prog_7_method_2_code
def yX5_isBright : MethodName := ⟨RX5, "isBright", "(I)Z"⟩
abbrev cX5_allSizes : ByteArray := prog_7_method_3_code
def yX5_allSizes : MethodName := ⟨RX5, "allSizes", "()I"⟩
abbrev cX5_countOf : ByteArray := prog_7_method_4_code
def yX5_countOf : MethodName := ⟨RX5, "countOf", "(I)I"⟩
abbrev cX5_lightBrought : ByteArray := prog_7_method_5_code
def yX5_lightBrought : MethodName := ⟨RX5, "lightBrought", "(II)I"⟩
abbrev cX5_hoursBrought : ByteArray := prog_7_method_6_code
def yX5_hoursBrought : MethodName := ⟨RX5, "hoursBrought", "(II)I"⟩
abbrev cX5_hoursOfSet : ByteArray := prog_7_method_7_code
def yX5_hoursOfSet : MethodName := ⟨RX5, "hoursOfSet", "(II)I"⟩
def RX6 : String := "NoonJars$Pourings"
def TX6 : u_T := fun k => match k with
  | 0 => ("NoonJars$Pourings", "states", "[I", true)
  | 1 => ("NoonJars$Pourings", "comeBy", "[I", true)
  | 2 => ("NoonJars$Pourings", "stamps", "[I", true)
  | 3 => ("NoonJars$Pourings", "jars", "[I", true)
  | 4 => ("NoonJars$Pourings", "sizes", "[I", true)
  | 5 => ("NoonJars$Pourings", "stamp", "I", false)
  | 6 => ("NoonJars$Pourings", "jarCount", "I", false)
  | _ => ("NoonJars$Pourings", "size", "I", false)
def tyX6 : Nat → FieldType := fun k => match k with
  | 0 => .array .int
  | 1 => .array .int
  | 2 => .array .int
  | 3 => .array .int
  | 4 => .array .int
  | 5 => .int
  | 6 => .int
  | _ => .int
abbrev wsX60 : List Cond := u_ws RX6 TX6 8
theorem nmX6 : ∀ a, a < 8 → ∀ b, b < 8 → a ≠ b → (TX6 a).2.1 ≠ (TX6 b).2.1 := by decide +kernel
theorem tyX6_ok : ∀ k, k < 8 → parseFieldDescriptor (TX6 k).2.2.1 = some (tyX6 k) := by decide +kernel
abbrev cX6_init : ByteArray := prog_8_method_1_code
def yX6_init : MethodName := ⟨RX6, "<init>", "()V"⟩
abbrev cX6_explore : ByteArray := prog_8_method_2_code
def yX6_explore : MethodName := ⟨RX6, "explore", "(LNoonJars$Plan;LNoonJars$Scene;I)V"⟩
abbrev cX6_firstWith : ByteArray := prog_8_method_3_code
def yX6_firstWith : MethodName := ⟨RX6, "firstWith", "(II)I"⟩
abbrev cX6_steps : ByteArray := prog_8_method_4_code
def yX6_steps : MethodName := ⟨RX6, "steps", "(I)I"⟩
abbrev cX6_spilt : ByteArray := prog_8_method_5_code
def yX6_spilt : MethodName := ⟨RX6, "spilt", "(I)I"⟩
abbrev cX6_writeWay : ByteArray := prog_8_method_6_code
def yX6_writeWay : MethodName := ⟨RX6, "writeWay", "(IILNoonJars$Row;)V"⟩
abbrev cX6_leastSpilt : ByteArray := prog_8_method_7_code
def yX6_leastSpilt : MethodName := ⟨RX6, "leastSpilt", "(II)I"⟩
abbrev cX6_mostIn : ByteArray := prog_8_method_8_code
def yX6_mostIn : MethodName := ⟨RX6, "mostIn", "(I)I"⟩
abbrev cX6_gather : ByteArray := prog_8_method_9_code
def yX6_gather : MethodName := ⟨RX6, "gather", "(LNoonJars$Plan;LNoonJars$Scene;I)I"⟩
abbrev cX6_pourFrom : ByteArray := prog_8_method_10_code
def yX6_pourFrom : MethodName := ⟨RX6, "pourFrom", "(I)V"⟩
abbrev cX6_comeTo : ByteArray := prog_8_method_11_code
def yX6_comeTo : MethodName := ⟨RX6, "comeTo", "(III)V"⟩
abbrev cX6_slotOf : ByteArray := prog_8_method_12_code
def yX6_slotOf : MethodName := ⟨RX6, "slotOf", "(I)I"⟩
abbrev cX6_held : ByteArray := prog_8_method_13_code
def yX6_held : MethodName := ⟨RX6, "held", "(II)I"⟩
abbrev cX6_total : ByteArray := prog_8_method_14_code
def yX6_total : MethodName := ⟨RX6, "total", "(I)I"⟩
def RX7 : String := "NoonJars$Reader"
def TX7 : u_T := fun k => match k with
  | 0 => ("NoonJars$Reader", "text", "LNoonJars$Row;", false)
  | _ => ("NoonJars$Reader", "next", "I", false)
def tyX7 : Nat → FieldType := fun k => match k with
  | 0 => .object "NoonJars$Row"
  | _ => .int
abbrev wsX70 : List Cond := u_ws RX7 TX7 2
theorem nmX7 : ∀ a, a < 2 → ∀ b, b < 2 → a ≠ b → (TX7 a).2.1 ≠ (TX7 b).2.1 := by decide +kernel
theorem tyX7_ok : ∀ k, k < 2 → parseFieldDescriptor (TX7 k).2.2.1 = some (tyX7 k) := by decide +kernel
abbrev cX7_init : ByteArray := prog_9_method_1_code
def yX7_init : MethodName := ⟨RX7, "<init>", "()V"⟩
abbrev cX7_read : ByteArray := prog_9_method_2_code
def yX7_read : MethodName := ⟨RX7, "read", "(LNoonJars$Row;LNoonJars$Plan;)I"⟩
abbrev cX7_readMules : ByteArray := prog_9_method_3_code
def yX7_readMules : MethodName := ⟨RX7, "readMules", "(LNoonJars$Plan;)Z"⟩
abbrev cX7_readSuns : ByteArray := prog_9_method_4_code
def yX7_readSuns : MethodName := ⟨RX7, "readSuns", "(LNoonJars$Plan;)Z"⟩
abbrev cX7_readNeeds : ByteArray := prog_9_method_5_code
def yX7_readNeeds : MethodName := ⟨RX7, "readNeeds", "(LNoonJars$Plan;)Z"⟩
abbrev cX7_readJars : ByteArray := prog_9_method_6_code
def yX7_readJars : MethodName := ⟨RX7, "readJars", "(LNoonJars$Plan;)Z"⟩
abbrev cX7_readJar : ByteArray := prog_9_method_7_code
def yX7_readJar : MethodName := ⟨RX7, "readJar", "(LNoonJars$Plan;)Z"⟩
abbrev cX7_readLetter : ByteArray := prog_9_method_8_code
def yX7_readLetter : MethodName := ⟨RX7, "readLetter", "(C)Z"⟩
abbrev cX7_skipBlanks : ByteArray := prog_9_method_9_code
def yX7_skipBlanks : MethodName := ⟨RX7, "skipBlanks", "()V"⟩
abbrev cX7_sign : ByteArray := prog_9_method_10_code
def yX7_sign : MethodName := ⟨RX7, "sign", "()I"⟩
abbrev cX7_figure : ByteArray := prog_9_method_11_code
def yX7_figure : MethodName := ⟨RX7, "figure", "()I"⟩
def RX8 : String := "NoonJars$Row"
def TX8 : u_T := fun k => match k with
  | 0 => ("NoonJars$Row", "places", "[I", true)
  | _ => ("NoonJars$Row", "size", "I", false)
def tyX8 : Nat → FieldType := fun k => match k with
  | 0 => .array .int
  | _ => .int
abbrev wsX80 : List Cond := u_ws RX8 TX8 2
theorem nmX8 : ∀ a, a < 2 → ∀ b, b < 2 → a ≠ b → (TX8 a).2.1 ≠ (TX8 b).2.1 := by decide +kernel
theorem tyX8_ok : ∀ k, k < 2 → parseFieldDescriptor (TX8 k).2.2.1 = some (tyX8 k) := by decide +kernel
abbrev cX8_init : ByteArray := prog_10_method_1_code
def yX8_init : MethodName := ⟨RX8, "<init>", "()V"⟩
abbrev cX8_isThere : ByteArray := prog_10_method_2_code
def yX8_isThere : MethodName := ⟨RX8, "isThere", "()Z"⟩
abbrev cX8_has : ByteArray := prog_10_method_3_code
def yX8_has : MethodName := ⟨RX8, "has", "(I)Z"⟩
abbrev cX8_hasFrom : ByteArray := prog_10_method_4_code
def yX8_hasFrom : MethodName := ⟨RX8, "hasFrom", "(II)Z"⟩
abbrev cX8_makeAnew : ByteArray := prog_10_method_5_code
def yX8_makeAnew : MethodName := ⟨RX8, "makeAnew", "(II)V"⟩
abbrev cX8_sum : ByteArray := prog_10_method_6_code
def yX8_sum : MethodName := ⟨RX8, "sum", "()J"⟩
abbrev cX8_isAllWithin : ByteArray := prog_10_method_7_code
def yX8_isAllWithin : MethodName := ⟨RX8, "isAllWithin", "(II)Z"⟩
def RX9 : String := "NoonJars$Scene"
def TX9 : u_T := fun k => match k with
  | 0 => ("NoonJars$Scene", "light", "[I", true)
  | 1 => ("NoonJars$Scene", "where", "[I", true)
  | 2 => ("NoonJars$Scene", "opened", "[I", true)
  | 3 => ("NoonJars$Scene", "hours", "[I", true)
  | 4 => ("NoonJars$Scene", "darkDays", "[I", true)
  | 5 => ("NoonJars$Scene", "day", "I", false)
  | _ => ("NoonJars$Scene", "mulesGone", "I", false)
def tyX9 : Nat → FieldType := fun k => match k with
  | 0 => .array .int
  | 1 => .array .int
  | 2 => .array .int
  | 3 => .array .int
  | 4 => .array .int
  | 5 => .int
  | _ => .int
abbrev wsX90 : List Cond := u_ws RX9 TX9 7
theorem nmX9 : ∀ a, a < 7 → ∀ b, b < 7 → a ≠ b → (TX9 a).2.1 ≠ (TX9 b).2.1 := by decide +kernel
theorem tyX9_ok : ∀ k, k < 7 → parseFieldDescriptor (TX9 k).2.2.1 = some (tyX9 k) := by decide +kernel
abbrev cX9_init : ByteArray := prog_11_method_1_code
def yX9_init : MethodName := ⟨RX9, "<init>", "()V"⟩
abbrev cX9_clear : ByteArray := prog_11_method_2_code
def yX9_clear : MethodName := ⟨RX9, "clear", "()V"⟩
abbrev cX9_startDay : ByteArray := prog_11_method_3_code
def yX9_startDay : MethodName := ⟨RX9, "startDay", "()V"⟩
def RX10 : String := "NoonJars"
def TX10 : u_T := fun k => match k with
  | 0 => ("NoonJars", "rows", "[LNoonJars$Row;", true)
  | 1 => ("NoonJars", "texts", "[LNoonJars$Row;", true)
  | 2 => ("NoonJars", "reader", "LNoonJars$Reader;", true)
  | 3 => ("NoonJars", "scene", "LNoonJars$Scene;", true)
  | 4 => ("NoonJars", "deeds", "LNoonJars$Deeds;", true)
  | 5 => ("NoonJars", "kept", "LNoonJars$Memory;", true)
  | 6 => ("NoonJars", "keptDays", "[I", true)
  | 7 => ("NoonJars", "burnings", "LNoonJars$Burnings;", true)
  | 8 => ("NoonJars", "loading", "LNoonJars$Loads;", true)
  | 9 => ("NoonJars", "found", "[I", true)
  | 10 => ("NoonJars", "plan", "LNoonJars$Plan;", false)
  | 11 => ("NoonJars", "draft", "LNoonJars$Plan;", false)
  | 12 => ("NoonJars", "pourings", "LNoonJars$Pourings;", false)
  | 13 => ("NoonJars", "asked", "I", false)
  | _ => ("NoonJars", "finding", "I", false)
def tyX10 : Nat → FieldType := fun k => match k with
  | 0 => .array (.object "NoonJars$Row")
  | 1 => .array (.object "NoonJars$Row")
  | 2 => .object "NoonJars$Reader"
  | 3 => .object "NoonJars$Scene"
  | 4 => .object "NoonJars$Deeds"
  | 5 => .object "NoonJars$Memory"
  | 6 => .array .int
  | 7 => .object "NoonJars$Burnings"
  | 8 => .object "NoonJars$Loads"
  | 9 => .array .int
  | 10 => .object "NoonJars$Plan"
  | 11 => .object "NoonJars$Plan"
  | 12 => .object "NoonJars$Pourings"
  | 13 => .int
  | _ => .int
abbrev wsX100 : List Cond := u_ws RX10 TX10 15
theorem nmX10 : ∀ a, a < 15 → ∀ b, b < 15 → a ≠ b → (TX10 a).2.1 ≠ (TX10 b).2.1 := by decide +kernel
theorem tyX10_ok : ∀ k, k < 15 → parseFieldDescriptor (TX10 k).2.2.1 = some (tyX10 k) := by decide +kernel
abbrev cX10_init : ByteArray := prog_1_method_1_code
def yX10_init : MethodName := ⟨RX10, "<init>", "()V"⟩
abbrev cX10_row : ByteArray := prog_1_method_2_code
def yX10_row : MethodName := ⟨RX10, "row", "(II)I"⟩
abbrev cX10_lay : ByteArray := prog_1_method_3_code
def yX10_lay : MethodName := ⟨RX10, "lay", "(III)I"⟩
abbrev cX10_at : ByteArray := prog_1_method_4_code
def yX10_at : MethodName := ⟨RX10, "at", "(II)I"⟩
abbrev cX10_tear : ByteArray := prog_1_method_5_code
def yX10_tear : MethodName := ⟨RX10, "tear", "(I)I"⟩
abbrev cX10_copy : ByteArray := prog_1_method_6_code
def yX10_copy : MethodName := ⟨RX10, "copy", "(IIIII)I"⟩
abbrev cX10_mean : ByteArray := prog_1_method_7_code
def yX10_mean : MethodName := ⟨RX10, "mean", "(I)I"⟩
abbrev cX10_text : ByteArray := prog_1_method_8_code
def yX10_text : MethodName := ⟨RX10, "text", "(II)I"⟩
abbrev cX10_put : ByteArray := prog_1_method_9_code
def yX10_put : MethodName := ⟨RX10, "put", "(III)I"⟩
abbrev cX10_fault : ByteArray := prog_1_method_10_code
def yX10_fault : MethodName := ⟨RX10, "fault", "(I)I"⟩
abbrev cX10_land : ByteArray := prog_1_method_11_code
def yX10_land : MethodName := ⟨RX10, "land", "(I)I"⟩
abbrev cX10_jar : ByteArray := prog_1_method_12_code
def yX10_jar : MethodName := ⟨RX10, "jar", "(II)I"⟩
abbrev cX10_mark : ByteArray := prog_1_method_13_code
def yX10_mark : MethodName := ⟨RX10, "mark", "(II)I"⟩
abbrev cX10_place : ByteArray := prog_1_method_14_code
def yX10_place : MethodName := ⟨RX10, "place", "(II)I"⟩
abbrev cX10_sun : ByteArray := prog_1_method_15_code
def yX10_sun : MethodName := ⟨RX10, "sun", "(I)I"⟩
abbrev cX10_fill : ByteArray := prog_1_method_16_code
def yX10_fill : MethodName := ⟨RX10, "fill", "(I)I"⟩
abbrev cX10_carry : ByteArray := prog_1_method_17_code
def yX10_carry : MethodName := ⟨RX10, "carry", "(II)I"⟩
abbrev cX10_pour : ByteArray := prog_1_method_18_code
def yX10_pour : MethodName := ⟨RX10, "pour", "(II)I"⟩
abbrev cX10_spend : ByteArray := prog_1_method_19_code
def yX10_spend : MethodName := ⟨RX10, "spend", "(II)I"⟩
abbrev cX10_steal : ByteArray := prog_1_method_20_code
def yX10_steal : MethodName := ⟨RX10, "steal", "(II)I"⟩
abbrev cX10_night : ByteArray := prog_1_method_21_code
def yX10_night : MethodName := ⟨RX10, "night", "()I"⟩
abbrev cX10_undo : ByteArray := prog_1_method_22_code
def yX10_undo : MethodName := ⟨RX10, "undo", "()I"⟩
abbrev cX10_keep : ByteArray := prog_1_method_23_code
def yX10_keep : MethodName := ⟨RX10, "keep", "(I)I"⟩
abbrev cX10_on : ByteArray := prog_1_method_24_code
def yX10_on : MethodName := ⟨RX10, "on", "(I)I"⟩
abbrev cX10_brings : ByteArray := prog_1_method_25_code
def yX10_brings : MethodName := ⟨RX10, "brings", "(II)I"⟩
abbrev cX10_best : ByteArray := prog_1_method_26_code
def yX10_best : MethodName := ⟨RX10, "best", "(I)I"⟩
abbrev cX10_loads : ByteArray := prog_1_method_27_code
def yX10_loads : MethodName := ⟨RX10, "loads", "()I"⟩
abbrev cX10_needs : ByteArray := prog_1_method_28_code
def yX10_needs : MethodName := ⟨RX10, "needs", "(I)I"⟩
abbrev cX10_store : ByteArray := prog_1_method_29_code
def yX10_store : MethodName := ⟨RX10, "store", "(II)I"⟩
abbrev cX10_pours : ByteArray := prog_1_method_30_code
def yX10_pours : MethodName := ⟨RX10, "pours", "(II)I"⟩
abbrev cX10_way : ByteArray := prog_1_method_31_code
def yX10_way : MethodName := ⟨RX10, "way", "(III)I"⟩
abbrev cX10_loss : ByteArray := prog_1_method_32_code
def yX10_loss : MethodName := ⟨RX10, "loss", "(II)I"⟩
abbrev cX10_most : ByteArray := prog_1_method_33_code
def yX10_most : MethodName := ⟨RX10, "most", "(I)I"⟩
abbrev cX10_burnt : ByteArray := prog_1_method_34_code
def yX10_burnt : MethodName := ⟨RX10, "burnt", "(II)I"⟩
abbrev cX10_forget : ByteArray := prog_1_method_35_code
def yX10_forget : MethodName := ⟨RX10, "forget", "(I)I"⟩
abbrev cX10_mixed : ByteArray := prog_1_method_36_code
def yX10_mixed : MethodName := ⟨RX10, "mixed", "()I"⟩
abbrev cX10_sure : ByteArray := prog_1_method_37_code
def yX10_sure : MethodName := ⟨RX10, "sure", "()I"⟩
abbrev cX10_test : ByteArray := prog_1_method_38_code
def yX10_test : MethodName := ⟨RX10, "test", "()I"⟩
abbrev cX10_theft : ByteArray := prog_1_method_39_code
def yX10_theft : MethodName := ⟨RX10, "theft", "(II)I"⟩
abbrev cX10_seats : ByteArray := prog_1_method_40_code
def yX10_seats : MethodName := ⟨RX10, "seats", "(III)I"⟩
abbrev cX10_mirror : ByteArray := prog_1_method_41_code
def yX10_mirror : MethodName := ⟨RX10, "mirror", "(II)I"⟩
abbrev cX10_lots : ByteArray := prog_1_method_42_code
def yX10_lots : MethodName := ⟨RX10, "lots", "(II)I"⟩
abbrev cX10_asked : ByteArray := prog_1_method_43_code
def yX10_asked : MethodName := ⟨RX10, "asked", "()I"⟩
abbrev cX10_upper : ByteArray := prog_1_method_44_code
def yX10_upper : MethodName := ⟨RX10, "upper", "()J"⟩
abbrev cX10_lower : ByteArray := prog_1_method_45_code
def yX10_lower : MethodName := ⟨RX10, "lower", "()J"⟩
abbrev cX10_count : ByteArray := prog_1_method_46_code
def yX10_count : MethodName := ⟨RX10, "count", "(I)I"⟩
abbrev cX10_finding : ByteArray := prog_1_method_47_code
def yX10_finding : MethodName := ⟨RX10, "finding", "()I"⟩
abbrev cX10_findings : ByteArray := prog_1_method_48_code
def yX10_findings : MethodName := ⟨RX10, "findings", "(I)I"⟩
abbrev cX10_digest : ByteArray := prog_1_method_49_code
def yX10_digest : MethodName := ⟨RX10, "digest", "()J"⟩
abbrev cX10_isWithin : ByteArray := prog_1_method_50_code
def yX10_isWithin : MethodName := ⟨RX10, "isWithin", "(III)Z"⟩
abbrev cX10_isJar : ByteArray := prog_1_method_51_code
def yX10_isJar : MethodName := ⟨RX10, "isJar", "(I)Z"⟩
abbrev cX10_isPlace : ByteArray := prog_1_method_52_code
def yX10_isPlace : MethodName := ⟨RX10, "isPlace", "(I)Z"⟩
abbrev cX10_isValley : ByteArray := prog_1_method_53_code
def yX10_isValley : MethodName := ⟨RX10, "isValley", "(I)Z"⟩
abbrev cX10_find : ByteArray := prog_1_method_54_code
def yX10_find : MethodName := ⟨RX10, "find", "(I)I"⟩
abbrev cX10_tell : ByteArray := prog_1_method_55_code
def yX10_tell : MethodName := ⟨RX10, "tell", "(II)I"⟩
abbrev cX10_refuseRow : ByteArray := prog_1_method_56_code
def yX10_refuseRow : MethodName := ⟨RX10, "refuseRow", "([LNoonJars$Row;I)I"⟩
abbrev cX10_refusePlace : ByteArray := prog_1_method_57_code
def yX10_refusePlace : MethodName := ⟨RX10, "refusePlace", "([LNoonJars$Row;II)I"⟩
abbrev cX10_makeRow : ByteArray := prog_1_method_58_code
def yX10_makeRow : MethodName := ⟨RX10, "makeRow", "(LNoonJars$Row;II)I"⟩
abbrev cX10_jarTells : ByteArray := prog_1_method_59_code
def yX10_jarTells : MethodName := ⟨RX10, "jarTells", "(II)I"⟩
abbrev cX10_placeTells : ByteArray := prog_1_method_60_code
def yX10_placeTells : MethodName := ⟨RX10, "placeTells", "(II)I"⟩
abbrev cX10_lightAt : ByteArray := prog_1_method_61_code
def yX10_lightAt : MethodName := ⟨RX10, "lightAt", "(I)I"⟩
abbrev cX10_allLight : ByteArray := prog_1_method_62_code
def yX10_allLight : MethodName := ⟨RX10, "allLight", "()I"⟩
abbrev cX10_leakAll : ByteArray := prog_1_method_63_code
def yX10_leakAll : MethodName := ⟨RX10, "leakAll", "()I"⟩
abbrev cX10_countDark : ByteArray := prog_1_method_64_code
def yX10_countDark : MethodName := ⟨RX10, "countDark", "()I"⟩
abbrev cX10_refusePouring : ByteArray := prog_1_method_65_code
def yX10_refusePouring : MethodName := ⟨RX10, "refusePouring", "(II)I"⟩
abbrev cX10_pouringsFrom : ByteArray := prog_1_method_66_code
def yX10_pouringsFrom : MethodName := ⟨RX10, "pouringsFrom", "(I)LNoonJars$Pourings;"⟩
abbrev cX10_share : ByteArray := prog_1_method_67_code
def yX10_share : MethodName := ⟨RX10, "share", "(ILNoonJars$Row;LNoonJars$Row;)I"⟩
abbrev cX10_doLot : ByteArray := prog_1_method_68_code
def yX10_doLot : MethodName := ⟨RX10, "doLot", "(II)I"⟩
abbrev cX10_commonDivisor : ByteArray := prog_1_method_69_code
def yX10_commonDivisor : MethodName := ⟨RX10, "commonDivisor", "(II)I"⟩
abbrev cX10_countThere : ByteArray := prog_1_method_70_code
def yX10_countThere : MethodName := ⟨RX10, "countThere", "([LNoonJars$Row;)I"⟩
abbrev cX10_digestRows : ByteArray := prog_1_method_71_code
def yX10_digestRows : MethodName := ⟨RX10, "digestRows", "(J[LNoonJars$Row;)J"⟩
def RX11 : String := "NoonJarsModel"
def TX11 : u_T := fun k => match k with
  | 0 => ("NoonJarsModel", "latest", "I", false)
  | 1 => ("NoonJarsModel", "came", "[I", true)
  | 2 => ("NoonJarsModel", "asked", "I", false)
  | 3 => ("NoonJarsModel", "sizes", "[I", true)
  | 4 => ("NoonJarsModel", "rows", "[I", true)
  | 5 => ("NoonJarsModel", "copied", "[I", true)
  | 6 => ("NoonJarsModel", "textSizes", "[I", true)
  | 7 => ("NoonJarsModel", "bytes", "[B", true)
  | 8 => ("NoonJarsModel", "mules", "I", false)
  | 9 => ("NoonJarsModel", "sunMany", "I", false)
  | 10 => ("NoonJarsModel", "suns", "[I", true)
  | 11 => ("NoonJarsModel", "need", "[I", true)
  | 12 => ("NoonJarsModel", "n", "I", false)
  | 13 => ("NoonJarsModel", "kinds", "[I", true)
  | 14 => ("NoonJarsModel", "full", "[I", true)
  | 15 => ("NoonJarsModel", "readAt", "I", false)
  | 16 => ("NoonJarsModel", "readNumber", "I", false)
  | 17 => ("NoonJarsModel", "readMules", "I", false)
  | 18 => ("NoonJarsModel", "readSuns", "I", false)
  | 19 => ("NoonJarsModel", "readNeed", "Z", false)
  | 20 => ("NoonJarsModel", "readMany", "I", false)
  | 21 => ("NoonJarsModel", "readSun", "[I", true)
  | 22 => ("NoonJarsModel", "readNeeds", "[I", true)
  | 23 => ("NoonJarsModel", "readKinds", "[I", true)
  | 24 => ("NoonJarsModel", "readSizes", "[I", true)
  | 25 => ("NoonJarsModel", "now", "[I", true)
  | 26 => ("NoonJarsModel", "deedMany", "I", false)
  | 27 => ("NoonJarsModel", "deeds", "[I", true)
  | 28 => ("NoonJarsModel", "isKept", "[Z", true)
  | 29 => ("NoonJarsModel", "kept", "[I", true)
  | 30 => ("NoonJarsModel", "loaded", "[I", true)
  | 31 => ("NoonJarsModel", "loadedJars", "I", false)
  | 32 => ("NoonJarsModel", "hereMany", "I", false)
  | 33 => ("NoonJarsModel", "here", "[I", true)
  | 34 => ("NoonJarsModel", "held", "[I", true)
  | 35 => ("NoonJarsModel", "far", "[I", true)
  | 36 => ("NoonJarsModel", "queue", "[I", true)
  | 37 => ("NoonJarsModel", "from", "[I", true)
  | 38 => ("NoonJarsModel", "by", "[I", true)
  | 39 => ("NoonJarsModel", "reached", "I", false)
  | 40 => ("NoonJarsModel", "burntMany", "I", false)
  | 41 => ("NoonJarsModel", "burntSet", "[I", true)
  | 42 => ("NoonJarsModel", "burntHours", "[I", true)
  | 43 => ("NoonJarsModel", "outcomes", "[I", true)
  | 44 => ("NoonJarsModel", "parts", "[I", true)
  | 45 => ("NoonJarsModel", "seatsOf", "[I", true)
  | _ => ("NoonJarsModel", "hash", "J", false)
def tyX11 : Nat → FieldType := fun k => match k with
  | 0 => .int
  | 1 => .array .int
  | 2 => .int
  | 3 => .array .int
  | 4 => .array .int
  | 5 => .array .int
  | 6 => .array .int
  | 7 => .array .byte
  | 8 => .int
  | 9 => .int
  | 10 => .array .int
  | 11 => .array .int
  | 12 => .int
  | 13 => .array .int
  | 14 => .array .int
  | 15 => .int
  | 16 => .int
  | 17 => .int
  | 18 => .int
  | 19 => .boolean
  | 20 => .int
  | 21 => .array .int
  | 22 => .array .int
  | 23 => .array .int
  | 24 => .array .int
  | 25 => .array .int
  | 26 => .int
  | 27 => .array .int
  | 28 => .array .boolean
  | 29 => .array .int
  | 30 => .array .int
  | 31 => .int
  | 32 => .int
  | 33 => .array .int
  | 34 => .array .int
  | 35 => .array .int
  | 36 => .array .int
  | 37 => .array .int
  | 38 => .array .int
  | 39 => .int
  | 40 => .int
  | 41 => .array .int
  | 42 => .array .int
  | 43 => .array .int
  | 44 => .array .int
  | 45 => .array .int
  | _ => .long
abbrev wsX110 : List Cond := u_ws RX11 TX11 47
theorem nmX11 : ∀ a, a < 47 → ∀ b, b < 47 → a ≠ b → (TX11 a).2.1 ≠ (TX11 b).2.1 := by decide +kernel
theorem tyX11_ok : ∀ k, k < 47 → parseFieldDescriptor (TX11 k).2.2.1 = some (tyX11 k) := by decide +kernel
abbrev cX11_init : ByteArray := prog_13_method_1_code
def yX11_init : MethodName := ⟨RX11, "<init>", "()V"⟩
abbrev cX11_in : ByteArray := prog_13_method_2_code
def yX11_in : MethodName := ⟨RX11, "in", "(III)Z"⟩
abbrev cX11_has : ByteArray := prog_13_method_3_code
def yX11_has : MethodName := ⟨RX11, "has", "(II)Z"⟩
abbrev cX11_bits : ByteArray := prog_13_method_4_code
def yX11_bits : MethodName := ⟨RX11, "bits", "(I)I"⟩
abbrev cX11_greater : ByteArray := prog_13_method_5_code
def yX11_greater : MethodName := ⟨RX11, "greater", "(II)I"⟩
abbrev cX11_meets : ByteArray := prog_13_method_6_code
def yX11_meets : MethodName := ⟨RX11, "meets", "(I)I"⟩
abbrev cX11_finding : ByteArray := prog_13_method_7_code
def yX11_finding : MethodName := ⟨RX11, "finding", "()I"⟩
abbrev cX11_findings : ByteArray := prog_13_method_8_code
def yX11_findings : MethodName := ⟨RX11, "findings", "(I)I"⟩
abbrev cX11_tells : ByteArray := prog_13_method_9_code
def yX11_tells : MethodName := ⟨RX11, "tells", "(II)I"⟩
abbrev cX11_asked : ByteArray := prog_13_method_10_code
def yX11_asked : MethodName := ⟨RX11, "asked", "()I"⟩
abbrev cX11_isRow : ByteArray := prog_13_method_11_code
def yX11_isRow : MethodName := ⟨RX11, "isRow", "(I)Z"⟩
abbrev cX11_rowAt : ByteArray := prog_13_method_12_code
def yX11_rowAt : MethodName := ⟨RX11, "rowAt", "(II)I"⟩
abbrev cX11_row : ByteArray := prog_13_method_13_code
def yX11_row : MethodName := ⟨RX11, "row", "(II)I"⟩
abbrev cX11_lay : ByteArray := prog_13_method_14_code
def yX11_lay : MethodName := ⟨RX11, "lay", "(III)I"⟩
abbrev cX11_at : ByteArray := prog_13_method_15_code
def yX11_at : MethodName := ⟨RX11, "at", "(II)I"⟩
abbrev cX11_tear : ByteArray := prog_13_method_16_code
def yX11_tear : MethodName := ⟨RX11, "tear", "(I)I"⟩
abbrev cX11_copy : ByteArray := prog_13_method_17_code
def yX11_copy : MethodName := ⟨RX11, "copy", "(IIIII)I"⟩
abbrev cX11_mean : ByteArray := prog_13_method_18_code
def yX11_mean : MethodName := ⟨RX11, "mean", "(I)I"⟩
abbrev cX11_isText : ByteArray := prog_13_method_19_code
def yX11_isText : MethodName := ⟨RX11, "isText", "(I)Z"⟩
abbrev cX11_text : ByteArray := prog_13_method_20_code
def yX11_text : MethodName := ⟨RX11, "text", "(II)I"⟩
abbrev cX11_put : ByteArray := prog_13_method_21_code
def yX11_put : MethodName := ⟨RX11, "put", "(III)I"⟩
abbrev cX11_byteAt : ByteArray := prog_13_method_22_code
def yX11_byteAt : MethodName := ⟨RX11, "byteAt", "(II)I"⟩
abbrev cX11_kindOf : ByteArray := prog_13_method_23_code
def yX11_kindOf : MethodName := ⟨RX11, "kindOf", "(I)I"⟩
abbrev cX11_figure : ByteArray := prog_13_method_24_code
def yX11_figure : MethodName := ⟨RX11, "figure", "(III)Z"⟩
abbrev cX11_isSign : ByteArray := prog_13_method_25_code
def yX11_isSign : MethodName := ⟨RX11, "isSign", "(II)Z"⟩
abbrev cX11_readsMules : ByteArray := prog_13_method_26_code
def yX11_readsMules : MethodName := ⟨RX11, "readsMules", "(I)Z"⟩
abbrev cX11_readsSuns : ByteArray := prog_13_method_27_code
def yX11_readsSuns : MethodName := ⟨RX11, "readsSuns", "(I)Z"⟩
abbrev cX11_readsNeeds : ByteArray := prog_13_method_28_code
def yX11_readsNeeds : MethodName := ⟨RX11, "readsNeeds", "(I)Z"⟩
abbrev cX11_readsJar : ByteArray := prog_13_method_29_code
def yX11_readsJar : MethodName := ⟨RX11, "readsJar", "(I)Z"⟩
abbrev cX11_faultOf : ByteArray := prog_13_method_30_code
def yX11_faultOf : MethodName := ⟨RX11, "faultOf", "(I)I"⟩
abbrev cX11_fault : ByteArray := prog_13_method_31_code
def yX11_fault : MethodName := ⟨RX11, "fault", "(I)I"⟩
abbrev cX11_land : ByteArray := prog_13_method_32_code
def yX11_land : MethodName := ⟨RX11, "land", "(I)I"⟩
abbrev cX11_isJar : ByteArray := prog_13_method_33_code
def yX11_isJar : MethodName := ⟨RX11, "isJar", "(I)Z"⟩
abbrev cX11_isPlace : ByteArray := prog_13_method_34_code
def yX11_isPlace : MethodName := ⟨RX11, "isPlace", "(I)Z"⟩
abbrev cX11_isValley : ByteArray := prog_13_method_35_code
def yX11_isValley : MethodName := ⟨RX11, "isValley", "(I)Z"⟩
abbrev cX11_tenth : ByteArray := prog_13_method_36_code
def yX11_tenth : MethodName := ⟨RX11, "tenth", "(I)I"⟩
abbrev cX11_leakOf : ByteArray := prog_13_method_37_code
def yX11_leakOf : MethodName := ⟨RX11, "leakOf", "(IIZ)I"⟩
abbrev cX11_leakNow : ByteArray := prog_13_method_38_code
def yX11_leakNow : MethodName := ⟨RX11, "leakNow", "(I)I"⟩
abbrev cX11_costOf : ByteArray := prog_13_method_39_code
def yX11_costOf : MethodName := ⟨RX11, "costOf", "(I)I"⟩
abbrev cX11_jarTells : ByteArray := prog_13_method_40_code
def yX11_jarTells : MethodName := ⟨RX11, "jarTells", "(II)I"⟩
abbrev cX11_jar : ByteArray := prog_13_method_41_code
def yX11_jar : MethodName := ⟨RX11, "jar", "(II)I"⟩
abbrev cX11_mark : ByteArray := prog_13_method_42_code
def yX11_mark : MethodName := ⟨RX11, "mark", "(II)I"⟩
abbrev cX11_lightAt : ByteArray := prog_13_method_43_code
def yX11_lightAt : MethodName := ⟨RX11, "lightAt", "(I)I"⟩
abbrev cX11_placeTells : ByteArray := prog_13_method_44_code
def yX11_placeTells : MethodName := ⟨RX11, "placeTells", "(II)I"⟩
abbrev cX11_place : ByteArray := prog_13_method_45_code
def yX11_place : MethodName := ⟨RX11, "place", "(II)I"⟩
abbrev cX11_shines : ByteArray := prog_13_method_46_code
def yX11_shines : MethodName := ⟨RX11, "shines", "(I)Z"⟩
abbrev cX11_sun : ByteArray := prog_13_method_47_code
def yX11_sun : MethodName := ⟨RX11, "sun", "(I)I"⟩
abbrev cX11_remembers : ByteArray := prog_13_method_48_code
def yX11_remembers : MethodName := ⟨RX11, "remembers", "(I)V"⟩
abbrev cX11_fill : ByteArray := prog_13_method_49_code
def yX11_fill : MethodName := ⟨RX11, "fill", "(I)I"⟩
abbrev cX11_carry : ByteArray := prog_13_method_50_code
def yX11_carry : MethodName := ⟨RX11, "carry", "(II)I"⟩
abbrev cX11_pouredOf : ByteArray := prog_13_method_51_code
def yX11_pouredOf : MethodName := ⟨RX11, "pouredOf", "(II)I"⟩
abbrev cX11_pour : ByteArray := prog_13_method_52_code
def yX11_pour : MethodName := ⟨RX11, "pour", "(II)I"⟩
abbrev cX11_spend : ByteArray := prog_13_method_53_code
def yX11_spend : MethodName := ⟨RX11, "spend", "(II)I"⟩
abbrev cX11_steal : ByteArray := prog_13_method_54_code
def yX11_steal : MethodName := ⟨RX11, "steal", "(II)I"⟩
abbrev cX11_night : ByteArray := prog_13_method_55_code
def yX11_night : MethodName := ⟨RX11, "night", "()I"⟩
abbrev cX11_undo : ByteArray := prog_13_method_56_code
def yX11_undo : MethodName := ⟨RX11, "undo", "()I"⟩
abbrev cX11_keep : ByteArray := prog_13_method_57_code
def yX11_keep : MethodName := ⟨RX11, "keep", "(I)I"⟩
abbrev cX11_on : ByteArray := prog_13_method_58_code
def yX11_on : MethodName := ⟨RX11, "on", "(I)I"⟩
abbrev cX11_broughtTo : ByteArray := prog_13_method_59_code
def yX11_broughtTo : MethodName := ⟨RX11, "broughtTo", "(II)I"⟩
abbrev cX11_hoursAt : ByteArray := prog_13_method_60_code
def yX11_hoursAt : MethodName := ⟨RX11, "hoursAt", "(II)I"⟩
abbrev cX11_brings : ByteArray := prog_13_method_61_code
def yX11_brings : MethodName := ⟨RX11, "brings", "(II)I"⟩
abbrev cX11_best : ByteArray := prog_13_method_62_code
def yX11_best : MethodName := ⟨RX11, "best", "(I)I"⟩
abbrev cX11_lit : ByteArray := prog_13_method_63_code
def yX11_lit : MethodName := ⟨RX11, "lit", "(I)I"⟩
abbrev cX11_loads : ByteArray := prog_13_method_64_code
def yX11_loads : MethodName := ⟨RX11, "loads", "()I"⟩
abbrev cX11_needs : ByteArray := prog_13_method_65_code
def yX11_needs : MethodName := ⟨RX11, "needs", "(I)I"⟩
abbrev cX11_leftOf : ByteArray := prog_13_method_66_code
def yX11_leftOf : MethodName := ⟨RX11, "leftOf", "(III)I"⟩
abbrev cX11_store : ByteArray := prog_13_method_67_code
def yX11_store : MethodName := ⟨RX11, "store", "(II)I"⟩
abbrev cX11_code : ByteArray := prog_13_method_68_code
def yX11_code : MethodName := ⟨RX11, "code", "()I"⟩
abbrev cX11_look : ByteArray := prog_13_method_69_code
def yX11_look : MethodName := ⟨RX11, "look", "(I)V"⟩
abbrev cX11_layHere : ByteArray := prog_13_method_70_code
def yX11_layHere : MethodName := ⟨RX11, "layHere", "(I)V"⟩
abbrev cX11_layStates : ByteArray := prog_13_method_71_code
def yX11_layStates : MethodName := ⟨RX11, "layStates", "()V"⟩
abbrev cX11_step : ByteArray := prog_13_method_72_code
def yX11_step : MethodName := ⟨RX11, "step", "(III)V"⟩
abbrev cX11_sumOf : ByteArray := prog_13_method_73_code
def yX11_sumOf : MethodName := ⟨RX11, "sumOf", "(I)I"⟩
abbrev cX11_holds : ByteArray := prog_13_method_74_code
def yX11_holds : MethodName := ⟨RX11, "holds", "(III)Z"⟩
abbrev cX11_needStates : ByteArray := prog_13_method_75_code
def yX11_needStates : MethodName := ⟨RX11, "needStates", "(ZI)I"⟩
abbrev cX11_firstState : ByteArray := prog_13_method_76_code
def yX11_firstState : MethodName := ⟨RX11, "firstState", "(II)I"⟩
abbrev cX11_pours : ByteArray := prog_13_method_77_code
def yX11_pours : MethodName := ⟨RX11, "pours", "(II)I"⟩
abbrev cX11_way : ByteArray := prog_13_method_78_code
def yX11_way : MethodName := ⟨RX11, "way", "(III)I"⟩
abbrev cX11_loss : ByteArray := prog_13_method_79_code
def yX11_loss : MethodName := ⟨RX11, "loss", "(II)I"⟩
abbrev cX11_most : ByteArray := prog_13_method_80_code
def yX11_most : MethodName := ⟨RX11, "most", "(I)I"⟩
abbrev cX11_burnt : ByteArray := prog_13_method_81_code
def yX11_burnt : MethodName := ⟨RX11, "burnt", "(II)I"⟩
abbrev cX11_forget : ByteArray := prog_13_method_82_code
def yX11_forget : MethodName := ⟨RX11, "forget", "(I)I"⟩
abbrev cX11_burns : ByteArray := prog_13_method_83_code
def yX11_burns : MethodName := ⟨RX11, "burns", "(II)I"⟩
abbrev cX11_fits : ByteArray := prog_13_method_84_code
def yX11_fits : MethodName := ⟨RX11, "fits", "(I)Z"⟩
abbrev cX11_mixed : ByteArray := prog_13_method_85_code
def yX11_mixed : MethodName := ⟨RX11, "mixed", "()I"⟩
abbrev cX11_sure : ByteArray := prog_13_method_86_code
def yX11_sure : MethodName := ⟨RX11, "sure", "()I"⟩
abbrev cX11_leftBy : ByteArray := prog_13_method_87_code
def yX11_leftBy : MethodName := ⟨RX11, "leftBy", "(I)I"⟩
abbrev cX11_test : ByteArray := prog_13_method_88_code
def yX11_test : MethodName := ⟨RX11, "test", "()I"⟩
abbrev cX11_theft : ByteArray := prog_13_method_89_code
def yX11_theft : MethodName := ⟨RX11, "theft", "(II)I"⟩
abbrev cX11_seats : ByteArray := prog_13_method_90_code
def yX11_seats : MethodName := ⟨RX11, "seats", "(III)I"⟩
abbrev cX11_mirror : ByteArray := prog_13_method_91_code
def yX11_mirror : MethodName := ⟨RX11, "mirror", "(II)I"⟩
abbrev cX11_lots : ByteArray := prog_13_method_92_code
def yX11_lots : MethodName := ⟨RX11, "lots", "(II)I"⟩
abbrev cX11_lightAll : ByteArray := prog_13_method_93_code
def yX11_lightAll : MethodName := ⟨RX11, "lightAll", "()I"⟩
abbrev cX11_sizeAll : ByteArray := prog_13_method_94_code
def yX11_sizeAll : MethodName := ⟨RX11, "sizeAll", "()I"⟩
abbrev cX11_common : ByteArray := prog_13_method_95_code
def yX11_common : MethodName := ⟨RX11, "common", "()I"⟩
abbrev cX11_upper : ByteArray := prog_13_method_96_code
def yX11_upper : MethodName := ⟨RX11, "upper", "()J"⟩
abbrev cX11_lower : ByteArray := prog_13_method_97_code
def yX11_lower : MethodName := ⟨RX11, "lower", "()J"⟩
abbrev cX11_counted : ByteArray := prog_13_method_98_code
def yX11_counted : MethodName := ⟨RX11, "counted", "(I)I"⟩
abbrev cX11_count : ByteArray := prog_13_method_99_code
def yX11_count : MethodName := ⟨RX11, "count", "(I)I"⟩
abbrev cX11_mix : ByteArray := prog_13_method_100_code
def yX11_mix : MethodName := ⟨RX11, "mix", "(J)V"⟩
abbrev cX11_mixLand : ByteArray := prog_13_method_101_code
def yX11_mixLand : MethodName := ⟨RX11, "mixLand", "()V"⟩
abbrev cX11_digest : ByteArray := prog_13_method_102_code
def yX11_digest : MethodName := ⟨RX11, "digest", "()J"⟩
def RJ6 : String := "java/lang/Integer"
abbrev cJ6_bitCount_0f7a4 : ByteArray := prog_14_method_49_code
def yJ6_bitCount_0f7a4 : MethodName := ⟨RJ6, "bitCount", "(I)I"⟩
def RJ9 : String := "java/lang/Math"
abbrev cJ9_floorDiv_7cf53 : ByteArray := prog_15_method_47_code
def yJ9_floorDiv_7cf53 : MethodName := ⟨RJ9, "floorDiv", "(II)I"⟩
abbrev cJ9_floorMod_7cf53 : ByteArray := prog_15_method_50_code
def yJ9_floorMod_7cf53 : MethodName := ⟨RJ9, "floorMod", "(II)I"⟩
abbrev cJ9_max_7cf53 : ByteArray := prog_15_method_65_code
def yJ9_max_7cf53 : MethodName := ⟨RJ9, "max", "(II)I"⟩
abbrev cJ9_min_7cf53 : ByteArray := prog_15_method_69_code
def yJ9_min_7cf53 : MethodName := ⟨RJ9, "min", "(II)I"⟩
def RJ10 : String := "java/lang/System"
def RJ7 : String := "java/util/Arrays"
abbrev cJ7_fill_53178 : ByteArray := prog_17_method_103_code
def yJ7_fill_53178 : MethodName := ⟨RJ7, "fill", "([II)V"⟩
def RL : String := "NoonJarsLaw"
abbrev cL_law : ByteArray := code
def yL_law : MethodName := ⟨RL, "law", "([I)Z"⟩
end
section
/-- words that hold on, whatever has been loaded meanwhile -/
def am_stb : Cond → Bool
  | .arrayClass _ => true
  | .fieldLinkNest _ _ _ _ _ _ => true
  | .methodLinkNest _ _ _ _ => true
  | .arrayOver (.object _) => true
  | w => w.onTables && w.keeps
theorem am_inw {C : String} {T : u_T} {N : Nat} (ps : List Nat) (h : (List.range N).all (fun k => decide (lw_tbl[ps.getD k 0]? = some (u_lay C T k))) = true) : ∀ w ∈ u_ws C T N, w ∈ lw_tbl := by
  intro w hw
  obtain ⟨k, hk, rfl⟩ := List.mem_map.mp hw
  have h1 := List.all_eq_true.mp h k hk
  exact List.mem_of_getElem? (of_decide_eq_true h1)
abbrev am_cl : List vw_C := [(RX0, TX0, 6), (RX1, TX1, 4), (RX3, TX3, 3), (RX4, TX4, 1), (RX5, TX5, 7), (RX6, TX6, 8), (RX7, TX7, 2), (RX8, TX8, 2), (RX9, TX9, 7), (RX10, TX10, 15), (RX11, TX11, 47)]
def am_ft (k : Nat) : Nat → FieldType := match k with
  | 0 => tyX0
  | 1 => tyX1
  | 2 => tyX3
  | 3 => tyX4
  | 4 => tyX5
  | 5 => tyX6
  | 6 => tyX7
  | 7 => tyX8
  | 8 => tyX9
  | 9 => tyX10
  | _ => tyX11
set_option maxRecDepth 20000 in
theorem am_in0 : ∀ w ∈ u_ws RX0 TX0 6, w ∈ lw_tbl := am_inw [207, 209, 211, 213, 215, 217] (by decide +kernel)
set_option maxRecDepth 20000 in
theorem am_in1 : ∀ w ∈ u_ws RX1 TX1 4, w ∈ lw_tbl := am_inw [180, 182, 184, 186] (by decide +kernel)
set_option maxRecDepth 20000 in
theorem am_in3 : ∀ w ∈ u_ws RX3 TX3 3, w ∈ lw_tbl := am_inw [229, 231, 233] (by decide +kernel)
set_option maxRecDepth 20000 in
theorem am_in4 : ∀ w ∈ u_ws RX4 TX4 1, w ∈ lw_tbl := am_inw [172] (by decide +kernel)
set_option maxRecDepth 20000 in
theorem am_in5 : ∀ w ∈ u_ws RX5 TX5 7, w ∈ lw_tbl := am_inw [266, 268, 270, 272, 274, 276, 278] (by decide +kernel)
set_option maxRecDepth 20000 in
theorem am_in6 : ∀ w ∈ u_ws RX6 TX6 8, w ∈ lw_tbl := am_inw [734, 736, 738, 740, 742, 744, 746, 748] (by decide +kernel)
set_option maxRecDepth 20000 in
theorem am_in7 : ∀ w ∈ u_ws RX7 TX7 2, w ∈ lw_tbl := am_inw [106, 108] (by decide +kernel)
set_option maxRecDepth 20000 in
theorem am_in8 : ∀ w ∈ u_ws RX8 TX8 2, w ∈ lw_tbl := am_inw [292, 294] (by decide +kernel)
set_option maxRecDepth 20000 in
theorem am_in9 : ∀ w ∈ u_ws RX9 TX9 7, w ∈ lw_tbl := am_inw [140, 142, 144, 146, 148, 150, 152] (by decide +kernel)
set_option maxRecDepth 20000 in
theorem am_in10 : ∀ w ∈ u_ws RX10 TX10 15, w ∈ lw_tbl := am_inw [315, 317, 319, 321, 323, 325, 327, 329, 331, 333, 335, 337, 339, 341, 343] (by decide +kernel)
set_option maxRecDepth 20000 in
theorem am_in11 : ∀ w ∈ u_ws RX11 TX11 47, w ∈ lw_tbl := am_inw [1021, 1023, 1025, 1027, 1029, 1031, 1033, 1035, 1037, 1039, 1041, 1043, 1045, 1047, 1049, 1051, 1053, 1055, 1057, 1059, 1061, 1063, 1065, 1067, 1069, 1071, 1073, 1075, 1077, 1079, 1081, 1083, 1085, 1087, 1089, 1091, 1093, 1095, 1097, 1099, 1101, 1103, 1105, 1107, 1109, 1111, 1113] (by decide +kernel)
/-- what the tables say of a class that has objects -/
def am_CK (k : Nat) (r : vw_C) : Prop := am_cl[k]? = some r ∧ (∀ w ∈ u_ws r.1 r.2.1 r.2.2, w ∈ lw_tbl) ∧ (∀ f, f < r.2.2 → parseFieldDescriptor (r.2.1 f).2.2.1 = some (am_ft k f)) ∧ (∀ a, a < r.2.2 → ∀ b, b < r.2.2 → a ≠ b → (r.2.1 a).2.1 ≠ (r.2.1 b).2.1)
theorem am_ck0 : am_CK 0 (RX0, TX0, 6) := ⟨rfl, am_in0, tyX0_ok, nmX0⟩
theorem am_ck1 : am_CK 1 (RX1, TX1, 4) := ⟨rfl, am_in1, tyX1_ok, nmX1⟩
theorem am_ck2 : am_CK 2 (RX3, TX3, 3) := ⟨rfl, am_in3, tyX3_ok, nmX3⟩
theorem am_ck3 : am_CK 3 (RX4, TX4, 1) := ⟨rfl, am_in4, tyX4_ok, nmX4⟩
theorem am_ck4 : am_CK 4 (RX5, TX5, 7) := ⟨rfl, am_in5, tyX5_ok, nmX5⟩
theorem am_ck5 : am_CK 5 (RX6, TX6, 8) := ⟨rfl, am_in6, tyX6_ok, nmX6⟩
theorem am_ck6 : am_CK 6 (RX7, TX7, 2) := ⟨rfl, am_in7, tyX7_ok, nmX7⟩
theorem am_ck7 : am_CK 7 (RX8, TX8, 2) := ⟨rfl, am_in8, tyX8_ok, nmX8⟩
theorem am_ck8 : am_CK 8 (RX9, TX9, 7) := ⟨rfl, am_in9, tyX9_ok, nmX9⟩
theorem am_ck9 : am_CK 9 (RX10, TX10, 15) := ⟨rfl, am_in10, tyX10_ok, nmX10⟩
theorem am_ck10 : am_CK 10 (RX11, TX11, 47) := ⟨rfl, am_in11, tyX11_ok, nmX11⟩
theorem am_ckof {k : Nat} {r : vw_C} (h : am_cl[k]? = some r) : am_CK k r := by
  match k, h with
  | 0, h => cases h; exact am_ck0
  | 1, h => cases h; exact am_ck1
  | 2, h => cases h; exact am_ck2
  | 3, h => cases h; exact am_ck3
  | 4, h => cases h; exact am_ck4
  | 5, h => cases h; exact am_ck5
  | 6, h => cases h; exact am_ck6
  | 7, h => cases h; exact am_ck7
  | 8, h => cases h; exact am_ck8
  | 9, h => cases h; exact am_ck9
  | 10, h => cases h; exact am_ck10
  | k + 11, h => simp [am_cl] at h
end
section
/-! AM: the heap as numbers. Cells have numbers: 0 null, 1 the script, 2 LETTERS, 3 UNITS, from 4 on those that are made, in their order.
 M = (next number, slots made, shape (kind, length) of each, ints, longs, references by cell and place). -/
abbrev am_G : Type := va_G × (Nat → ClassId) × Nat × (Nat → Nat) × Nat × (Nat → Int32)
abbrev am_M : Type := Nat × Nat × (Nat → Nat × Nat) × (Nat → Nat → Int32) × (Nat → Nat → Int64) × (Nat → Nat → Nat)
abbrev am_Y : Type := MethodName × ByteArray × Nat × Option FieldType × Nat × Nat
abbrev am_L : Type := List (Option Value)
abbrev am_nx (M : am_M) : Nat := M.1
abbrev am_sl (M : am_M) : Nat := M.2.1
abbrev am_sh (M : am_M) : Nat → Nat × Nat := M.2.2.1
abbrev am_mu (M : am_M) : Nat → Nat → Int32 := M.2.2.2.1
abbrev am_lg (M : am_M) : Nat → Nat → Int64 := M.2.2.2.2.1
abbrev am_ro (M : am_M) : Nat → Nat → Nat := M.2.2.2.2.2
/-- one row of a table is another -/
def am_rw {α : Type} (f : Nat → α) (i : Nat) (r : α) : Nat → α := fun a => if a = i then r else f a
theorem am_rw_s {α : Type} {f : Nat → α} {i : Nat} {r : α} : am_rw f i r i = r := by simp [am_rw]
theorem am_rw_n {α : Type} {f : Nat → α} {i a : Nat} {r : α} (h : a ≠ i) : am_rw f i r a = f a := by simp [am_rw, h]
/-- an int, a long, a reference is written; a row of ints comes to an array -/
def am_wI (M : am_M) (i j : Nat) (v : Int32) : am_M := (M.1, M.2.1, M.2.2.1, am_rw M.2.2.2.1 i (upd (M.2.2.2.1 i) j v), M.2.2.2.2.1, M.2.2.2.2.2)
def am_wA (M : am_M) (i : Nat) (r : Nat → Int32) : am_M := (M.1, M.2.1, M.2.2.1, am_rw M.2.2.2.1 i r, M.2.2.2.2.1, M.2.2.2.2.2)
def am_wL (M : am_M) (i j : Nat) (v : Int64) : am_M := (M.1, M.2.1, M.2.2.1, M.2.2.2.1, am_rw M.2.2.2.2.1 i (vp_updL (M.2.2.2.2.1 i) j v), M.2.2.2.2.2)
def am_wR (M : am_M) (i j : Nat) (v : Nat) : am_M := (M.1, M.2.1, M.2.2.1, M.2.2.2.1, M.2.2.2.2.1, am_rw M.2.2.2.2.2 i (va_up (M.2.2.2.2.2 i) j v))
/-- a cell is made -/
def am_mk (M : am_M) (k n : Nat) : am_M := (M.1 + 1, M.2.1 + n, am_rw M.2.2.1 M.1 (k, n), am_rw M.2.2.2.1 M.1 (fun _ => 0), am_rw M.2.2.2.2.1 M.1 (fun _ => 0), am_rw M.2.2.2.2.2 M.1 (fun _ => 0))
def am_ad (g : am_G) (i : Nat) : Nat := if i < 4 then g.2.2.2.1 i else g.2.2.1 + (i - 4)
def am_tr (g : am_G) : Value → Value
  | .ref i => .ref (am_ad g i)
  | v => v
def am_av : Nat → Value
  | 0 => .null
  | n + 1 => .ref (n + 1)
def am_op (g : am_G) : Nat → Option Nat
  | 0 => none
  | n + 1 => some (am_ad g (n + 1))
theorem am_tr_av (g : am_G) (i : Nat) : am_tr g (am_av i) = va_rf (am_op g i) := by cases i <;> rfl
theorem am_tr_cat (g : am_G) (v : Value) : (am_tr g v).category = v.category := by cases v <;> rfl
def am_fv (g : am_G) (M : am_M) (i f : Nat) (ty : FieldType) : Value := match ty with
  | .long => .long (am_lg M i f)
  | .int => .int (am_mu M i f)
  | .boolean => .int (am_mu M i f)
  | _ => va_rf (am_op g (am_ro M i f))
def am_en (g : am_G) (M : am_M) (i : Nat) : va_E :=
  if (am_sh M i).1 < 11 then .inr ((am_sh M i).1, (List.range (am_sh M i).2).map (fun f => am_fv g M i f (am_ft (am_sh M i).1 f)))
  else if (am_sh M i).1 = 14 then .inl (g.2.1 14, (am_sh M i).2, .inr (.inr (.inr (.inr (fun j => am_op g (am_ro M i j))))))
  else .inl (g.2.1 (am_sh M i).1, (am_sh M i).2, .inl (am_mu M i))
def am_ws (g : am_G) (M : am_M) : va_W := (List.range (am_nx M - 4)).map (fun j => (g.2.2.1 + j, am_en g M (j + 4)))
def am_ty (g : am_G) : List (ClassId × FieldType) := [(g.2.1 11, .byte), (g.2.1 12, .int), (g.2.1 13, .boolean), (g.2.1 14, .object "NoonJars$Row")]
def am_A (g : am_G) : Nat → Prop := fun q => g.2.2.1 ≤ q
def am_let (j : Nat) : Int32 := ([106, 99, 101, 100, 108, 117] : List Int32).getD j 0
def am_uni (j : Nat) : Int32 := ([1, 21, 441] : List Int32).getD j 0
/-- the heap holds M -/
def am_R (g : am_G) (M : am_M) (H : Heap) : Prop := H.size + 4 = g.2.2.1 + am_nx M ∧ 4 ≤ am_nx M ∧ va_P g.1 am_cl (am_ws g M) H ∧ (∀ i, am_nx M ≤ i → (am_sh M i).1 = 99) ∧
  ((am_sh M 0).1 = 99 ∧ am_sh M 1 = (16, g.2.2.2.2.1) ∧ am_sh M 2 = (15, 6) ∧ am_sh M 3 = (16, 3)) ∧
  (∀ j, j < g.2.2.2.2.1 → am_mu M 1 j = g.2.2.2.2.2 j) ∧ (∀ j, j < 6 → am_mu M 2 j = am_let j) ∧ (∀ j, j < 3 → am_mu M 3 j = am_uni j) ∧ (∀ i, (am_sh M i).1 < 11 → ∃ r, am_cl[(am_sh M i).1]? = some r ∧ r.2.2 = (am_sh M i).2) ∧ (∀ i, 4 ≤ i → i < am_nx M → (am_sh M i).1 < 15)
def am_K (g : am_G) (U : State) (H : Heap) : Prop := va_K g.1 am_cl (am_ty g) U ∧
  (va_Z "NoonJars$Kinds" "LETTERS" "[C" (.ref (am_ad g 2)) (am_A g) U H ∧ va_T .char (am_ad g 2) 6 (fun j => .int (am_let j)) (am_A g) U H) ∧
  (va_Z "NoonJars$Pourings" "UNITS" "[I" (.ref (am_ad g 3)) (am_A g) U H ∧ va_T .int (am_ad g 3) 3 (fun j => .int (am_uni j)) (am_A g) U H) ∧
  va_X (am_ad g 1) g.2.2.2.2.1 g.2.2.2.2.2 U H ∧ am_ad g 1 < g.2.2.1 ∧ g.2.2.1 ≤ H.size
def am_ts (args : Array Value) (s : State) : Prop := ∀ w ∈ lw_tbl, am_stb w = true → w.before args s = true
def am_X (g : am_G) (d : am_Y) (p : Program) (s : State) (m : MethodId) (args : Array Value) (meth : Method) (c : Code) : Prop :=
  p.tables.exec = Jvm.exec ∧ c.code = d.2.1 ∧ c.maxLocals = d.2.2.1 ∧ s.vm.findClass d.1.cls = some m.cls ∧ meth.name = d.1.name ∧ am_ts args s ∧ am_K g s s.heap
/-! locals -/
def am_get : am_L → Nat → Option Value
  | [], _ => none
  | a :: _, 0 => a
  | _ :: l, n + 1 => am_get l n
def am_set : am_L → Nat → Option Value → am_L
  | [], _, _ => []
  | _ :: l, 0, v => v :: l
  | a :: l, n + 1, v => a :: am_set l n v
/-- a long that stood a place ahead is gone -/
def am_cutv (l : am_L) (n : Nat) : Option Value → am_L
  | some v => if v.category = 2 then am_set l n none else l
  | none => l
def am_cut (l : am_L) : Nat → am_L
  | 0 => l
  | n + 1 => am_cutv l n (am_get l n)
def am_st1 (l : am_L) (i : Nat) (v : Value) : am_L := am_set (am_cut l i) i (some v)
def am_st2 (l : am_L) (i : Nat) (v : Value) : am_L := am_set (am_set (am_cut l i) (i + 1) none) i (some v)
def am_ents : List Value → am_L
  | [] => []
  | v :: vs => if v.category = 2 then some v :: none :: am_ents vs else some v :: am_ents vs
def am_lv (g : am_G) : Nat → am_L → List (Nat × Value)
  | _, [] => []
  | i, some v :: t => (i, am_tr g v) :: am_lv g (i + 1) t
  | i, none :: t => am_lv g (i + 1) t
theorem am_lv_mem (g : am_G) : ∀ (l : am_L) (k : Nat) (q : Nat × Value), q ∈ am_lv g k l ↔ ∃ i v, q = (k + i, am_tr g v) ∧ am_get l i = some v := by
  intro l
  induction l with
  | nil => intro k q; simp [am_lv, am_get]
  | cons a t ih =>
    intro k q
    constructor
    · intro h
      cases a with
      | none =>
        obtain ⟨i, v, h1, h2⟩ := (ih (k + 1) q).mp h
        exact ⟨i + 1, v, by rw [h1]; simp; omega, h2⟩
      | some w =>
        rcases List.mem_cons.mp h with h | h
        · exact ⟨0, w, h, rfl⟩
        · obtain ⟨i, v, h1, h2⟩ := (ih (k + 1) q).mp h
          exact ⟨i + 1, v, by rw [h1]; simp; omega, h2⟩
    · rintro ⟨i, v, h1, h2⟩
      cases i with
      | zero =>
        have h2 : a = some v := h2
        subst h2
        rw [h1]
        exact List.mem_cons_self
      | succ i =>
        have h3 : q ∈ am_lv g (k + 1) t := (ih (k + 1) q).mpr ⟨i, v, by rw [h1]; simp; omega, h2⟩
        cases a with
        | none => exact h3
        | some w => exact List.mem_cons_of_mem _ h3
theorem am_set_get (l : am_L) (i j : Nat) (v : Option Value) (w : Value) (h : am_get (am_set l i v) j = some w) : (j = i ∧ v = some w) ∨ (j ≠ i ∧ am_get l j = some w) := by
  induction l generalizing i j with
  | nil => simp [am_set, am_get] at h
  | cons a t ih =>
    cases i with
    | zero =>
      cases j with
      | zero => exact Or.inl ⟨rfl, h⟩
      | succ j => exact Or.inr ⟨by omega, h⟩
    | succ i =>
      cases j with
      | zero => exact Or.inr ⟨by omega, h⟩
      | succ j =>
        rcases ih i j h with ⟨h1, h2⟩ | ⟨h1, h2⟩
        · exact Or.inl ⟨by omega, h2⟩
        · exact Or.inr ⟨by omega, h2⟩
theorem am_cut_get (l : am_L) (i j : Nat) (w : Value) (h : am_get (am_cut l i) j = some w) : am_get l j = some w ∧ ¬ (j + 1 = i ∧ w.category = 2) := by
  cases i with
  | zero => exact ⟨h, fun q => by omega⟩
  | succ n =>
    have h : am_get (am_cutv l n (am_get l n)) j = some w := h
    cases hv : am_get l n with
    | none =>
      rw [hv] at h
      have h8 : am_get l j = some w := h
      refine ⟨h8, fun q => ?_⟩
      rw [show j = n by omega, hv] at h8
      cases h8
    | some v =>
      rw [hv] at h
      have h : am_get (if v.category = 2 then am_set l n none else l) j = some w := h
      by_cases hc : v.category = 2
      · rw [if_pos hc] at h
        rcases am_set_get _ _ _ _ _ h with ⟨h1, h2⟩ | ⟨h1, h2⟩
        · cases h2
        · exact ⟨h2, fun q => h1 (by omega)⟩
      · rw [if_neg hc] at h
        refine ⟨h, fun q => ?_⟩
        rw [show j = n by omega, hv] at h
        cases h
        exact hc q.2
def am_ll (g : am_G) (ls : Array Slot) (nL : Nat) (l : am_L) : Prop := lv_has ls nL (am_lv g 0 l)
theorem am_ll_at {g : am_G} {ls : Array Slot} {nL : Nat} {l : am_L} (h : am_ll g ls nL l) {i : Nat} {v : Value} (hv : am_get l i = some v) : ls[i]? = some (.val (am_tr g v)) :=
  h.2.2 (i, am_tr g v) ((am_lv_mem g l 0 _).mpr ⟨i, v, by simp, hv⟩)
theorem am_ll_sub {g : am_G} {ls : Array Slot} {nL : Nat} {l : am_L} {lv : List (Nat × Value)} (h : lv_has ls nL lv) (hs : ∀ q ∈ am_lv g 0 l, q ∈ lv) : am_ll g ls nL l := ⟨h.1, h.2.1, fun q hq => h.2.2 q (hs q hq)⟩
theorem am_st1_sub (g : am_G) (l : am_L) (i : Nat) (v : Value) : ∀ q ∈ am_lv g 0 (am_st1 l i v), q ∈ (i, am_tr g v) :: (am_lv g 0 l).filter (fun q => !(q.1 == i) && !(q.1 + 1 == i && q.2.category == 2)) := by
  intro q hq
  obtain ⟨j, w, h1, h2⟩ := (am_lv_mem g _ 0 q).mp hq
  rcases am_set_get _ _ _ _ _ h2 with ⟨h3, h4⟩ | ⟨h3, h4⟩
  · cases h4
    rw [h1, h3]
    simp
  · obtain ⟨h5, h6⟩ := am_cut_get _ _ _ _ h4
    refine List.mem_cons_of_mem _ (List.mem_filter.mpr ⟨(am_lv_mem g l 0 q).mpr ⟨j, w, h1, h5⟩, ?_⟩)
    rw [h1]
    simp only [am_tr_cat, Nat.zero_add]
    have e1 : (j == i) = false := by simp [h3]
    rw [e1]
    by_cases e2 : j + 1 = i
    · have e3 : (w.category == 2) = false := by
        have h9 : ¬ w.category = 2 := fun z => h6 ⟨e2, z⟩
        simp [h9]
      simp [e3]
    · simp [e2]
theorem am_st2_sub (g : am_G) (l : am_L) (i : Nat) (v : Value) : ∀ q ∈ am_lv g 0 (am_st2 l i v), q ∈ (i, am_tr g v) :: (am_lv g 0 l).filter (fun q => !(q.1 == i) && (!(q.1 == i + 1) && !(q.1 + 1 == i && q.2.category == 2))) := by
  intro q hq
  obtain ⟨j, w, h1, h2⟩ := (am_lv_mem g _ 0 q).mp hq
  rcases am_set_get _ _ _ _ _ h2 with ⟨h3, h4⟩ | ⟨h3, h4⟩
  · cases h4
    rw [h1, h3]
    simp
  · rcases am_set_get _ _ _ _ _ h4 with ⟨h7, h8⟩ | ⟨h7, h8⟩
    · cases h8
    obtain ⟨h5, h6⟩ := am_cut_get _ _ _ _ h8
    refine List.mem_cons_of_mem _ (List.mem_filter.mpr ⟨(am_lv_mem g l 0 q).mpr ⟨j, w, h1, h5⟩, ?_⟩)
    rw [h1]
    simp only [am_tr_cat, Nat.zero_add]
    have e1 : (j == i) = false := by simp [h3]
    have e4 : (j == i + 1) = false := by simp [h7]
    rw [e1, e4]
    by_cases e2 : j + 1 = i
    · have e3 : (w.category == 2) = false := by
        have h9 : ¬ w.category = 2 := fun z => h6 ⟨e2, z⟩
        simp [h9]
      simp [e3]
    · simp [e2]
theorem am_ents_args (g : am_G) (vs : List Value) : ∀ k, am_lv g k (am_ents vs) = lv_args k (vs.map (am_tr g)) := by
  induction vs with
  | nil => intro k; rfl
  | cons v t ih =>
    intro k
    by_cases hc : v.category = 2
    · simp only [am_ents, hc, if_true, List.map_cons, lv_args, am_tr_cat, am_lv]
      rw [ih (k + 1 + 1)]
    · simp only [am_ents, hc, if_false, List.map_cons, lv_args, am_tr_cat, am_lv]
      rw [ih (k + 1)]
theorem am_lv_none (g : am_G) (n : Nat) : ∀ k, am_lv g k (List.replicate n none) = [] := by
  induction n with
  | zero => intro k; rfl
  | succ n ih => intro k; rw [List.replicate_succ]; exact ih (k + 1)
theorem am_lv_app (g : am_G) (l : am_L) (n : Nat) : ∀ k, am_lv g k (l ++ List.replicate n none) = am_lv g k l := by
  induction l with
  | nil => intro k; exact am_lv_none g n k
  | cons a t ih =>
    intro k
    cases a with
    | none => exact ih (k + 1)
    | some v =>
      rw [List.cons_append]
      simp only [am_lv]
      rw [ih (k + 1)]
end
section
/-! the world of M as the kit's list of cells -/
theorem am_ad_hi (g : am_G) {i : Nat} (h : 4 ≤ i) : am_ad g i = g.2.2.1 + (i - 4) := by
  unfold am_ad
  rw [if_neg (by omega)]
theorem am_ws_len (g : am_G) (M : am_M) : (am_ws g M).length = am_nx M - 4 := by simp [am_ws]
theorem am_ws_at {g : am_G} {M : am_M} {k : Nat} {q : Nat × va_E} (h : (am_ws g M)[k]? = some q) : k < am_nx M - 4 ∧ q = (g.2.2.1 + k, am_en g M (k + 4)) := by
  have hk : k < (am_ws g M).length := (List.getElem?_eq_some_iff.mp h).1
  rw [am_ws_len] at hk
  refine ⟨hk, ?_⟩
  unfold am_ws at h
  rw [List.getElem?_map, List.getElem?_range hk] at h
  exact (Option.some.inj h).symm
theorem am_ws_get {g : am_G} {M : am_M} {i : Nat} (h4 : 4 ≤ i) (hi : i < am_nx M) : (am_ws g M)[i - 4]? = some (am_ad g i, am_en g M i) := by
  unfold am_ws
  rw [List.getElem?_map, List.getElem?_range (by omega), am_ad_hi g h4]
  show some (_, am_en g M (i - 4 + 4)) = _
  rw [show i - 4 + 4 = i by omega]
theorem am_ws_D (g : am_G) (M : am_M) : va_D (am_A g) (am_ws g M) := by
  refine ⟨fun i j x y hi hj hxy => ?_, fun k q hk => ?_⟩
  · have h1 := (am_ws_at hi).2
    have h2 := (am_ws_at hj).2
    rw [h1, h2] at hxy
    simp at hxy
    exact hxy
  · rw [(am_ws_at hk).2]
    show g.2.2.1 ≤ g.2.2.1 + k
    omega
theorem am_lt {g : am_G} {M : am_M} {H : Heap} (hR : am_R g M H) {i : Nat} (h : (am_sh M i).1 < 99) : i < am_nx M := by
  rcases Nat.lt_or_ge i (am_nx M) with q | q
  · exact q
  · have := hR.2.2.2.1 i q
    omega
theorem am_ge {g : am_G} {M : am_M} {H : Heap} (hR : am_R g M H) {i : Nat} (h : (am_sh M i).1 < 15) : 4 ≤ i := by
  obtain ⟨-, -, -, -, ⟨h0, h1, h2, h3⟩, -⟩ := hR
  rcases Nat.lt_or_ge i 4 with q | q
  · rcases (show i = 0 ∨ i = 1 ∨ i = 2 ∨ i = 3 by omega) with rfl | rfl | rfl | rfl
    · omega
    · rw [h1] at h; simp at h
    · rw [h2] at h; simp at h
    · rw [h3] at h; simp at h
  · exact q
theorem am_at {g : am_G} {M : am_M} {H : Heap} (hR : am_R g M H) {i : Nat} (h : (am_sh M i).1 < 15) : (am_ws g M)[i - 4]? = some (am_ad g i, am_en g M i) := am_ws_get (am_ge hR h) (am_lt hR (by omega))
theorem am_in {g : am_G} {M : am_M} {H : Heap} (hR : am_R g M H) {i : Nat} (h : (am_sh M i).1 < 15) : va_at g.1 am_cl (am_ad g i, am_en g M i) H := hR.2.2.1 _ _ (am_at hR h)
theorem am_adA {g : am_G} {M : am_M} {H : Heap} (hR : am_R g M H) {i : Nat} (h : (am_sh M i).1 < 15) : am_A g (am_ad g i) := by
  rw [am_ad_hi g (am_ge hR h)]
  show g.2.2.1 ≤ _
  omega
/-- one cell has changed -/
theorem am_R_upd {g : am_G} {M M1 : am_M} {H H1 : Heap} {i : Nat} (hR : am_R g M H) (hnx : am_nx M1 = am_nx M) (hsh : am_sh M1 = am_sh M) (hi : (am_sh M i).1 < 15) (hen : ∀ j, j ≠ i → am_en g M1 j = am_en g M j)
    (hmu : ∀ j, j < 4 → am_mu M1 j = am_mu M j) (hat : va_at g.1 am_cl (am_ad g i, am_en g M1 i) H1) (hz : H1.size = H.size) (oq : ∀ q, q ≠ am_ad g i → H1[q]? = H[q]?) : am_R g M1 H1 := by
  have h4 := am_ge hR hi
  obtain ⟨r1, r2, r3, r4, r5, r6, r7, r8, r9, r10⟩ := hR
  refine ⟨by rw [hz, hnx]; exact r1, by rw [hnx]; exact r2, fun k q hk => ?_, by rw [hnx, hsh]; exact r4, by rw [hsh]; exact r5, by rw [hmu 1 (by omega)]; exact r6, by rw [hmu 2 (by omega)]; exact r7, by rw [hmu 3 (by omega)]; exact r8, by rw [hsh]; exact r9, by rw [hsh, hnx]; exact r10⟩
  obtain ⟨k1, k2⟩ := am_ws_at hk
  rw [hnx] at k1
  by_cases hki : k + 4 = i
  · rw [k2, hki]
    rw [am_ad_hi g h4, show i - 4 = k by omega] at hat
    exact hat
  · rw [k2, hen _ hki]
    have h5 := r3 k _ (by rw [show k = k + 4 - 4 by omega]; exact am_ws_get (g := g) (by omega) (show k + 4 < am_nx M by omega))
    rw [am_ad_hi g (show 4 ≤ k + 4 by omega)] at h5
    rw [show k + 4 - 4 = k by omega] at h5
    refine h5.kept (oq _ ?_)
    rw [am_ad_hi g h4]
    show g.2.2.1 + k ≠ _
    omega
theorem am_V {n k : Nat} (F : Nat → Value) (h : k < n) : vp_V ((List.range n).map F) k = F k := by
  unfold vp_V
  rw [List.getD_eq_getElem?_getD, List.getElem?_map, List.getElem?_range h]
  rfl
/-! what holds on -/
theorem am_ts_warm {args a' : Array Value} {s U : State} (h : am_ts args s) (hW : s.WarmedH U.vm) : am_ts a' U := by
  intro w hw hs
  have hb := h w hw hs
  by_cases hg : goodWord w = true
  · exact word_at hW (good_of_word hg) hb
  · cases w <;> first
      | (exact absurd hs hg)
      | exact va_Nw.use rfl (va_Nw.warmF hW (va_Nw.of rfl hb))
      | exact va_Nw.use rfl (va_Nw.warmM hW (va_Nw.of rfl hb))
      | skip
    next ty =>
      cases ty <;> first
        | (exact absurd hs hg)
        | exact va_AO.use (va_AO.moved hW.alike (va_AO.of hb))
theorem am_K_moved {g : am_G} {u U : State} {H : Heap} (hvm : u.vm.Alike U.vm) (h : am_K g u H) : am_K g U H :=
  ⟨h.1.moved hvm, ⟨h.2.1.1.moved hvm, h.2.1.2.moved hvm⟩, ⟨h.2.2.1.1.moved hvm, h.2.2.1.2.moved hvm⟩, h.2.2.2.1.moved hvm, h.2.2.2.2⟩
theorem am_K_kept {g : am_G} {U : State} {H H1 : Heap} (h : am_K g U H) (hz : H.size ≤ H1.size) (hq : ∀ a : Nat, a < H.size → ¬ am_A g a → H1[a]? = H[a]?) : am_K g U H1 :=
  ⟨h.1, ⟨h.2.1.1.kept hq, h.2.1.2.kept hq⟩, ⟨h.2.2.1.1.kept hq, h.2.2.1.2.kept hq⟩, h.2.2.2.1.kept (hq _ (by have := h.2.2.2.2; omega) (fun z => by have := h.2.2.2.2.1; have z : g.2.2.1 ≤ am_ad g 1 := z; omega)), h.2.2.2.2.1, by have := h.2.2.2.2.2; omega⟩
theorem am_S_K {g : am_G} {s : State} {H : Heap} {locs : List Loc} (h : am_K g s s.heap) (hS : va_S (am_A g) s.heap H locs) : am_K g s H := am_K_kept h hS.1 hS.2.1
end
section
/-! one instruction over M: the machine's rows -/
def am_Fl (own : String) (idx k f : Nat) (ty : FieldType) : Prop := ∃ r : vw_C, am_cl[k]? = some r ∧ f < r.2.2 ∧ am_ft k f = ty ∧
  (Cond.fieldLink own idx (r.2.1 f).1 (r.2.1 f).2.1 (r.2.1 f).2.2.1 ∈ lw_tbl ∨ ∃ host, Cond.fieldLinkNest own idx (r.2.1 f).1 (r.2.1 f).2.1 (r.2.1 f).2.2.1 host ∈ lw_tbl)
theorem am_en_o {g : am_G} {M : am_M} {i : Nat} (h : (am_sh M i).1 < 11) : am_en g M i = .inr ((am_sh M i).1, (List.range (am_sh M i).2).map (fun f => am_fv g M i f (am_ft (am_sh M i).1 f))) := by
  unfold am_en
  rw [if_pos h]
theorem am_en_q {g : am_G} {M : am_M} {i : Nat} (h : (am_sh M i).1 = 14) : am_en g M i = .inl (g.2.1 14, (am_sh M i).2, .inr (.inr (.inr (.inr (fun j => am_op g (am_ro M i j)))))) := by
  unfold am_en
  rw [if_neg (by omega), if_pos h]
theorem am_en_i {g : am_G} {M : am_M} {i : Nat} (h : 11 ≤ (am_sh M i).1) (h2 : (am_sh M i).1 ≠ 14) : am_en g M i = .inl (g.2.1 (am_sh M i).1, (am_sh M i).2, .inl (am_mu M i)) := by
  unfold am_en
  rw [if_neg (by omega), if_neg h2]
section AW
variable {p : Program} {l : Launch} {e : Env} {R : Room} {s : State} {m : MethodId} {args : Array Value} {below : List Frame} {meth : Method} {c : Code} {H : Heap} {locs : List Loc} {cells slots : Nat} {Q : State → Prop}
variable {pc : Nat} {ls : Array Slot} {rest : List Value} {g : am_G} {d : am_Y} {M : am_M}
theorem am_wget (hX : am_X g d p s m args meth c) (hR : am_R g M H) {idx k f i : Nat} {ty : FieldType} (hl : am_Fl d.1.cls idx k f ty) (hk : k < 11) (hs : (am_sh M i).1 = k) (hdg : decode d.2.1 pc = .ok (.getfield idx, 3))
    (kk : W p l e R s m args below meth c H locs cells slots Q (F0 m (pc + 3) ls (am_fv g M i f ty :: rest))) : W p l e R s m args below meth c H locs cells slots Q (F0 m pc ls (.ref (am_ad g i) :: rest)) := by
  obtain ⟨hx, hb, -, hown, -, hts, hK, -⟩ := hX
  obtain ⟨⟨C, T, N⟩, hc, hf, hty, hlk⟩ := hl
  have hs11 : (am_sh M i).1 < 11 := by omega
  have hat := am_at hR (show (am_sh M i).1 < 15 by omega)
  rw [am_en_o hs11, hs] at hat
  obtain ⟨r, h9, h9'⟩ := hR.2.2.2.2.2.2.2.2.1 i hs11
  rw [hs] at h9
  cases hc.symm.trans h9
  have hck := am_ckof hc
  have hin2 : ∀ w ∈ u_ws C T N, w ∈ lw_tbl.filter am_stb := fun w hw => List.mem_filter.mpr ⟨hck.2.1 w hw, by
    obtain ⟨z, -, rfl⟩ := List.mem_map.mp hw
    unfold u_lay
    split <;> rfl⟩
  have hts2 : ∀ w ∈ lw_tbl.filter am_stb, w.before args s = true := fun w hw => hts w (List.mem_filter.mp hw).1 (List.mem_filter.mp hw).2
  have hv : ((List.range (am_sh M i).2).map (fun f => am_fv g M i f (am_ft k f)))[f]? = some (am_fv g M i f ty) := by
    rw [List.getElem?_map, List.getElem?_range (by rw [← h9']; exact hf), ← hty]
    rfl
  rcases hlk with hlk | ⟨host, hlk⟩
  · exact va_get hx hb hts2 hin2 hown hK hR.2.2.1 _ hat hc f hf (hts _ hlk rfl) (fun _ h => h) hv hdg kk
  · exact va_getN hx hb hts2 hin2 hown hK hR.2.2.1 _ hat hc f hf (hts _ hlk rfl) (fun _ h => h) hv hdg kk
/-- a field is written: M1 is M but there -/
theorem am_wput (hX : am_X g d p s m args meth c) (hR : am_R g M H) (hS0 : va_S (am_A g) s.heap H locs) {idx k f i : Nat} {ty : FieldType} {v : Value} {M1 : am_M} (hl : am_Fl d.1.cls idx k f ty) (hk : k < 11) (hs : (am_sh M i).1 = k) (hn : narrow ty v = v) (hfit : fits ty v = true)
    (hfin : ∀ r : vw_C, am_cl[k]? = some r → (r.2.1 f).2.2.2 = false ∨ ((r.2.1 f).2.2.2 = true ∧ d.1.name = "<init>" ∧ (r.2.1 f).1 = d.1.cls ∧ Cond.fieldLink d.1.cls idx (r.2.1 f).1 (r.2.1 f).2.1 (r.2.1 f).2.2.1 ∈ lw_tbl))
    (hnx : am_nx M1 = am_nx M) (hsh : am_sh M1 = am_sh M) (hen : ∀ j, j ≠ i → am_en g M1 j = am_en g M j) (hmu : ∀ j, j < 4 → am_mu M1 j = am_mu M j) (hv : am_fv g M1 i f ty = v) (ho : ∀ f', f' ≠ f → am_fv g M1 i f' (am_ft k f') = am_fv g M i f' (am_ft k f'))
    (hdg : decode d.2.1 pc = .ok (.putfield idx, 3)) (kk : ∀ (H1 : Heap) (locs1 : List Loc), am_R g M1 H1 → va_S (am_A g) s.heap H1 locs1 → W p l e R s m args below meth c H1 locs1 cells slots Q (F0 m (pc + 3) ls rest)) : W p l e R s m args below meth c H locs cells slots Q (F0 m pc ls (v :: .ref (am_ad g i) :: rest)) := by
  obtain ⟨hx, hb, -, hown, hnm, hts, hK, -⟩ := hX
  obtain ⟨⟨C, T, N⟩, hc, hf, hty, hlk⟩ := hl
  have hs11 : (am_sh M i).1 < 11 := by omega
  have hs15 : (am_sh M i).1 < 15 := by omega
  have hat := am_in hR hs15
  have hA := am_adA hR hs15
  have hen1 : am_en g M1 i = .inr (k, (List.range (am_sh M i).2).map (fun f => am_fv g M1 i f (am_ft k f))) := by
    have e := am_en_o (g := g) (M := M1) (i := i) (by rw [hsh]; exact hs11)
    rw [hsh, hs] at e
    exact e
  rw [am_en_o hs11, hs] at hat
  obtain ⟨r, h1, cell, q1, q2, q3, q4⟩ := hat
  cases h1.symm.trans hc
  obtain ⟨r', h9, h9'⟩ := hR.2.2.2.2.2.2.2.2.1 i hs11
  rw [hs] at h9
  cases hc.symm.trans h9
  have hck := am_ckof hc
  have hin2 : ∀ w ∈ u_ws C T N, w ∈ lw_tbl.filter am_stb := fun w hw => List.mem_filter.mpr ⟨hck.2.1 w hw, by
    obtain ⟨z, -, rfl⟩ := List.mem_map.mp hw
    unfold u_lay
    split <;> rfl⟩
  have hts2 : ∀ w ∈ lw_tbl.filter am_stb, w.before args s = true := fun w hw => hts w (List.mem_filter.mp hw).1 (List.mem_filter.mp hw).2
  have hap := va_apart (own := d.1.cls) hts2 hin2 (am_ft k) hck.2.2.1 hck.2.2.2 hK hc
  obtain ⟨hSl, hfc, kC, hkC, hkind⟩ := hK.1 k _ hc
  obtain ⟨cf, kf, fi, fd, hi, hsl⟩ := hSl f hf
  have hlay := hts2 _ (hin2 _ (u_in_lay hf))
  have hst := (u_facts hfc hkC (u_lays hts2 hin2 hf) hi).1
  have hd : parseFieldDescriptor (T f).2.2.1 = some ty := by rw [← hty]; exact hck.2.2.1 f hf
  have fin : ∀ H' : Heap, H'[am_ad g i]? = some (cell.setSlot (g.1.2 k f) v) → H'.size = H.size → (∀ q, q ≠ am_ad g i → H'[q]? = H[q]?) → W p l e R s m args below meth c H' (locs ++ [⟨am_ad g i, g.1.2 k f⟩]) cells slots Q (F0 m (pc + 3) ls rest) := by
    intro H' e1 e2 e3
    refine kk H' _ (am_R_upd hR hnx hsh hs15 hen hmu ?_ e2 e3) (hS0.put e2 e3 hA)
    rw [hen1]
    refine ⟨_, hc, t_OB.to (V := updV (vp_V ((List.range (am_sh M i).2).map (fun f => am_fv g M i f (am_ft k f)))) f v) ⟨_, e1, q2, q3, t_set q4 hap hf v⟩ (fun j hj => ?_)⟩
    have hj2 : j < (am_sh M i).2 := by rw [← h9']; exact hj
    rw [am_V _ hj2]
    unfold updV
    split
    next hjf => rw [hjf, hty, hv]
    next hjf => rw [am_V _ hj2, ho j hjf]
  rcases hfin _ hc with hfin | ⟨hfin, hini, hdecl, hlk2⟩
  · unfold u_lay at hlay
    rw [if_neg (by rw [hfin]; decide)] at hlay
    have h6 := u_store hfc hkC hkind hlay hi hd hn hfit
    rcases hlk with hlk | ⟨host, hlk⟩
    · refine W.putK hx hb (f := fd) ⟨hown, hts _ hlk rfl, ⟨_, _, _, hi⟩, hst⟩ (by rw [q2]; exact h6) q1 q3 (by rw [hsl]; exact k2_hasslot (q4 f hf)) rfl rfl hdg fun H' e1 e2 e3 => ?_
      rw [hsl] at e1 ⊢
      exact fin H' e1 e2 e3
    · refine va_WputK hx hb (f := fd) hown (hts _ hlk rfl) hi hst (by rw [q2]; exact h6) q1 q3 (by rw [hsl]; exact k2_hasslot (q4 f hf)) rfl rfl hdg fun H' e1 e2 e3 => ?_
      rw [hsl] at e1 ⊢
      exact fin H' e1 e2 e3
  · unfold u_lay at hlay
    rw [if_pos hfin] at hlay
    have hcf : m.cls = cf := by
      obtain ⟨_, _, c', _, _, _, -, -, hf', -, -, -, hown2, -⟩ := Cond.laysFinal_spec hlay
      have e1 : c' = cf := by have := hi.symm.trans hf'; simp at this; exact this.1.symm
      rw [hdecl] at hown2
      rw [← e1]; exact Option.some.inj (hown.symm.trans hown2)
    have h6 := u_fits hfc hkC hkind (Or.inr hlay) hi hd hn hfit
    refine W.putFinK hx hb hown (hts _ hlk2 rfl) hi hst hcf (by rw [hnm]; exact hini) (by rw [q2]; exact h6) q1 q3 (by rw [hsl]; exact k2_hasslot (q4 f hf)) rfl rfl hdg fun H' e1 e2 e3 => ?_
    rw [hsl] at e1 ⊢
    exact fin H' e1 e2 e3
end AW
end
section
/-! arrays over M -/
theorem am_wI_en {g : am_G} {M : am_M} {i j k : Nat} {v : Int32} (h : k ≠ i) : am_en g (am_wI M i j v) k = am_en g M k := by
  unfold am_en am_wI am_fv
  simp only [am_sh, am_mu, am_lg, am_ro, am_rw_n h]
theorem am_wA_en {g : am_G} {M : am_M} {i k : Nat} {r : Nat → Int32} (h : k ≠ i) : am_en g (am_wA M i r) k = am_en g M k := by
  unfold am_en am_wA am_fv
  simp only [am_sh, am_mu, am_lg, am_ro, am_rw_n h]
theorem am_wL_en {g : am_G} {M : am_M} {i j k : Nat} {v : Int64} (h : k ≠ i) : am_en g (am_wL M i j v) k = am_en g M k := by
  unfold am_en am_wL am_fv
  simp only [am_sh, am_mu, am_lg, am_ro, am_rw_n h]
theorem am_wR_en {g : am_G} {M : am_M} {i j k v : Nat} (h : k ≠ i) : am_en g (am_wR M i j v) k = am_en g M k := by
  unfold am_en am_wR am_fv
  simp only [am_sh, am_mu, am_lg, am_ro, am_rw_n h]
section AR
variable {p : Program} {l : Launch} {e : Env} {R : Room} {s : State} {m : MethodId} {args : Array Value} {below : List Frame} {meth : Method} {c : Code} {H : Heap} {locs : List Loc} {cells slots : Nat} {Q : State → Prop}
variable {pc : Nat} {ls : Array Slot} {rest : List Value} {g : am_G} {d : am_Y} {M : am_M}
theorem am_wiald (hX : am_X g d p s m args meth c) (hR : am_R g M H) (hS : va_S (am_A g) s.heap H locs) {i : Nat} {j : Int32} (hs : (am_sh M i).1 = 12 ∨ (am_sh M i).1 = 16) (hin : vp_in j (am_sh M i).2) (hdg : decode d.2.1 pc = .ok (.iaload, 1))
    (kk : W p l e R s m args below meth c H locs cells slots Q (F0 m (pc + 1) ls (.int (am_mu M i j.toNatClampNeg) :: rest))) : W p l e R s m args below meth c H locs cells slots Q (F0 m pc ls (.int j :: .ref (am_ad g i) :: rest)) := by
  obtain ⟨hx, hb, -, hown, -, hts, hK⟩ := hX
  rcases hs with hs | hs
  · have hat := am_at hR (show (am_sh M i).1 < 15 by omega)
    rw [am_en_i (by omega) (by omega), hs] at hat
    exact va_iald hx hb hK.1 hR.2.2.1 _ 1 hat rfl hin hdg kk
  · have hlt := am_lt hR (show (am_sh M i).1 < 99 by omega)
    have hlt2 : j.toNatClampNeg < (am_sh M i).2 := Nat.not_le.mp fun q => hin (Or.inr q)
    obtain ⟨r1, r2, r3, r4, ⟨s0, s1, s2, s3⟩, r6, r7, r8, r9, r10⟩ := hR
    have h4 : i < 4 := by
      rcases Nat.lt_or_ge i 4 with q | q
      · exact q
      · exfalso
        have := r10 i q hlt
        omega
    rcases (show i = 0 ∨ i = 1 ∨ i = 2 ∨ i = 3 by omega) with rfl | rfl | rfl | rfl
    · omega
    · rw [s1] at hin hlt2
      rw [r6 _ hlt2] at kk
      exact va_sld hx hb hK.2.2.2.1 (by have := hK.2.2.2.2; omega) (fun z => by have := hK.2.2.2.2.1; have z : g.2.2.1 ≤ am_ad g 1 := z; omega) hS hin hdg kk
    · rw [s2] at hs; simp at hs
    · rw [s3] at hin hlt2
      rw [r8 _ hlt2] at kk
      exact va_ti hx hb hK.2.2.1.2 hS hin rfl hdg kk
theorem am_wbald (hX : am_X g d p s m args meth c) (hR : am_R g M H) {i : Nat} {j : Int32} (hs : (am_sh M i).1 = 11 ∨ (am_sh M i).1 = 13) (hin : vp_in j (am_sh M i).2) (hdg : decode d.2.1 pc = .ok (.baload, 1))
    (kk : W p l e R s m args below meth c H locs cells slots Q (F0 m (pc + 1) ls (.int (am_mu M i j.toNatClampNeg) :: rest))) : W p l e R s m args below meth c H locs cells slots Q (F0 m pc ls (.int j :: .ref (am_ad g i) :: rest)) := by
  obtain ⟨hx, hb, -, hown, -, hts, hK⟩ := hX
  have hat := am_at hR (show (am_sh M i).1 < 15 by omega)
  rw [am_en_i (by omega) (by omega)] at hat
  rcases hs with hs | hs
  · rw [hs] at hat
    exact va_bald hx hb hK.1 hR.2.2.1 _ 0 hat rfl hin hdg kk
  · rw [hs] at hat
    exact va_zald hx hb hK.1 hR.2.2.1 _ 2 hat rfl hin hdg kk
theorem am_wcald (hX : am_X g d p s m args meth c) (hR : am_R g M H) (hS : va_S (am_A g) s.heap H locs) {j : Int32} (hin : vp_in j 6) (hdg : decode d.2.1 pc = .ok (.caload, 1))
    (kk : W p l e R s m args below meth c H locs cells slots Q (F0 m (pc + 1) ls (.int (am_mu M 2 j.toNatClampNeg) :: rest))) : W p l e R s m args below meth c H locs cells slots Q (F0 m pc ls (.int j :: .ref (am_ad g 2) :: rest)) := by
  obtain ⟨hx, hb, -, hown, -, hts, hK⟩ := hX
  have hlt2 : j.toNatClampNeg < 6 := Nat.not_le.mp fun q => hin (Or.inr q)
  rw [hR.2.2.2.2.2.2.1 _ hlt2] at kk
  exact va_tc hx hb hK.2.1.2 hS hin rfl hdg kk
theorem am_waald (hX : am_X g d p s m args meth c) (hR : am_R g M H) {i : Nat} {j : Int32} (hs : (am_sh M i).1 = 14) (hin : vp_in j (am_sh M i).2) (hdg : decode d.2.1 pc = .ok (.aaload, 1))
    (kk : W p l e R s m args below meth c H locs cells slots Q (F0 m (pc + 1) ls (am_tr g (am_av (am_ro M i j.toNatClampNeg)) :: rest))) : W p l e R s m args below meth c H locs cells slots Q (F0 m pc ls (.int j :: .ref (am_ad g i) :: rest)) := by
  obtain ⟨hx, hb, -, hown, -, hts, hK⟩ := hX
  have hat := am_at hR (show (am_sh M i).1 < 15 by omega)
  rw [am_en_q hs] at hat
  rw [am_tr_av] at kk
  exact va_aldq hx hb hK.1 hR.2.2.1 _ 3 hat rfl hin hdg kk
theorem am_walen (hX : am_X g d p s m args meth c) (hR : am_R g M H) (hS : va_S (am_A g) s.heap H locs) {i : Nat} (hs : 11 ≤ (am_sh M i).1 ∧ (am_sh M i).1 < 17) (hdg : decode d.2.1 pc = .ok (.arraylength, 1))
    (kk : W p l e R s m args below meth c H locs cells slots Q (F0 m (pc + 1) ls (.int (nI (am_sh M i).2) :: rest))) : W p l e R s m args below meth c H locs cells slots Q (F0 m pc ls (.ref (am_ad g i) :: rest)) := by
  obtain ⟨hx, hb, -, hown, -, hts, hK⟩ := hX
  by_cases h15 : (am_sh M i).1 < 15
  · have hat := am_at hR h15
    by_cases h14 : (am_sh M i).1 = 14
    · rw [am_en_q h14] at hat
      exact va_alen hx hb hK.1 hR.2.2.1 _ 3 hat rfl rfl hdg kk
    · rw [am_en_i (by omega) h14] at hat
      rcases (show (am_sh M i).1 = 11 ∨ (am_sh M i).1 = 12 ∨ (am_sh M i).1 = 13 by omega) with h | h | h
      · rw [h] at hat
        exact va_alen hx hb hK.1 hR.2.2.1 _ 0 hat rfl rfl hdg kk
      · rw [h] at hat
        exact va_alen hx hb hK.1 hR.2.2.1 _ 1 hat rfl rfl hdg kk
      · rw [h] at hat
        exact va_alen hx hb hK.1 hR.2.2.1 _ 2 hat rfl rfl hdg kk
  · have hlt := am_lt hR (show (am_sh M i).1 < 99 by omega)
    obtain ⟨r1, r2, r3, r4, ⟨s0, s1, s2, s3⟩, r6, r7, r8, r9, r10⟩ := hR
    have h4 : i < 4 := by
      rcases Nat.lt_or_ge i 4 with q | q
      · exact q
      · have := r10 i q hlt
        omega
    rcases (show i = 0 ∨ i = 1 ∨ i = 2 ∨ i = 3 by omega) with rfl | rfl | rfl | rfl
    · omega
    · rw [s1] at kk
      exact va_slen hx hb hK.2.2.2.1 (by have := hK.2.2.2.2; omega) (fun z => by have := hK.2.2.2.2.1; have z : g.2.2.1 ≤ am_ad g 1 := z; omega) hS hdg kk
    · rw [s2] at kk
      exact va_tlen hx hb hK.2.1.2 hS rfl hdg kk
    · rw [s3] at kk
      exact va_tlen hx hb hK.2.2.1.2 hS rfl hdg kk
theorem am_updV (f : Nat → Int32) (k : Nat) (x : Int32) : updV (fun j => Value.int (f j)) k (.int x) = fun j => .int (upd f k x j) := by
  funext q
  unfold updV upd
  split <;> rfl
theorem am_wiast (hX : am_X g d p s m args meth c) (hR : am_R g M H) (hS : va_S (am_A g) s.heap H locs) {i : Nat} {j x : Int32} (hs : (am_sh M i).1 = 12) (hin : vp_in j (am_sh M i).2) (hdg : decode d.2.1 pc = .ok (.iastore, 1))
    (kk : ∀ (H1 : Heap) (locs1 : List Loc), am_R g (am_wI M i j.toNatClampNeg x) H1 → va_S (am_A g) s.heap H1 locs1 → W p l e R s m args below meth c H1 locs1 cells slots Q (F0 m (pc + 1) ls rest)) : W p l e R s m args below meth c H locs cells slots Q (F0 m pc ls (.int x :: .int j :: .ref (am_ad g i) :: rest)) := by
  obtain ⟨hx, hb, -, hown, -, hts, hK⟩ := hX
  have h15 : (am_sh M i).1 < 15 := by omega
  have hat := am_in hR h15
  have hA := am_adA hR h15
  rw [am_en_i (by omega) (by omega), hs] at hat
  have hat : H[am_ad g i]? = some (vp_cell (g.2.1 12) ((am_sh M i).2, .inl (am_mu M i))) := hat
  refine W.iast hx hb hat ((hK.1.2 1 _ rfl).1 (am_sh M i).2 (fun j => .int (am_mu M i j))) (fun q => by cases q) (by show ¬ (j < 0 ∨ (arrV _ _ _).slots.size ≤ _); rw [arrV_size]; exact hin) rfl rfl hdg fun H1 e1 z oq => ?_
  refine kk H1 _ (am_R_upd hR rfl rfl h15 (fun _ h => am_wI_en h) (fun q hq => am_rw_n (by have := am_ge hR h15; omega)) ?_ z oq) (hS.put z oq hA)
  rw [am_en_i (by show 11 ≤ (am_sh M i).1; omega) (by show (am_sh M i).1 ≠ 14; omega)]
  show H1[am_ad g i]? = some (vp_cell (g.2.1 (am_sh M i).1) ((am_sh M i).2, .inl (am_rw (am_mu M) i (upd (am_mu M i) j.toNatClampNeg x) i)))
  rw [e1, am_rw_s, hs, vp_cell_i, vp_cell_i, arrV_store, am_updV]
theorem am_wbast (hX : am_X g d p s m args meth c) (hR : am_R g M H) (hS : va_S (am_A g) s.heap H locs) {i : Nat} {j x : Int32} (hs : (am_sh M i).1 = 11) (hin : vp_in j (am_sh M i).2) (hdg : decode d.2.1 pc = .ok (.bastore, 1))
    (kk : ∀ (H1 : Heap) (locs1 : List Loc), am_R g (am_wI M i j.toNatClampNeg (x.toInt8.toInt32)) H1 → va_S (am_A g) s.heap H1 locs1 → W p l e R s m args below meth c H1 locs1 cells slots Q (F0 m (pc + 1) ls rest)) : W p l e R s m args below meth c H locs cells slots Q (F0 m pc ls (.int x :: .int j :: .ref (am_ad g i) :: rest)) := by
  obtain ⟨hx, hb, -, hown, -, hts, hK⟩ := hX
  have h15 : (am_sh M i).1 < 15 := by omega
  have hat := am_in hR h15
  have hA := am_adA hR h15
  rw [am_en_i (by omega) (by omega), hs] at hat
  have hat : H[am_ad g i]? = some (vp_cell (g.2.1 11) ((am_sh M i).2, .inl (am_mu M i))) := hat
  refine W.bast hx hb hat ((hK.1.2 0 _ rfl).1 (am_sh M i).2 (fun j => .int (am_mu M i j))) (fun q => by cases q) (by show ¬ (j < 0 ∨ (arrV _ _ _).slots.size ≤ _); rw [arrV_size]; exact hin) rfl rfl hdg fun H1 e1 z oq => ?_
  refine kk H1 _ (am_R_upd hR rfl rfl h15 (fun _ h => am_wI_en h) (fun q hq => am_rw_n (by have := am_ge hR h15; omega)) ?_ z oq) (hS.put z oq hA)
  rw [am_en_i (by show 11 ≤ (am_sh M i).1; omega) (by show (am_sh M i).1 ≠ 14; omega)]
  show H1[am_ad g i]? = some (vp_cell (g.2.1 (am_sh M i).1) ((am_sh M i).2, .inl (am_rw (am_mu M) i (upd (am_mu M i) j.toNatClampNeg (x.toInt8.toInt32)) i)))
  rw [e1, am_rw_s, hs, vp_cell_i, vp_cell_i, arrV_store]
  show some (arrV _ _ (updV _ _ (.int x.toInt8.toInt32))) = _
  rw [am_updV]
theorem am_wzast (hX : am_X g d p s m args meth c) (hR : am_R g M H) (hS : va_S (am_A g) s.heap H locs) {i : Nat} {j x : Int32} (hs : (am_sh M i).1 = 13) (hin : vp_in j (am_sh M i).2) (hz : narrow .boolean (.int x) = .int x) (hdg : decode d.2.1 pc = .ok (.bastore, 1))
    (kk : ∀ (H1 : Heap) (locs1 : List Loc), am_R g (am_wI M i j.toNatClampNeg x) H1 → va_S (am_A g) s.heap H1 locs1 → W p l e R s m args below meth c H1 locs1 cells slots Q (F0 m (pc + 1) ls rest)) : W p l e R s m args below meth c H locs cells slots Q (F0 m pc ls (.int x :: .int j :: .ref (am_ad g i) :: rest)) := by
  obtain ⟨hx, hb, -, hown, -, hts, hK⟩ := hX
  have h15 : (am_sh M i).1 < 15 := by omega
  have hat := am_in hR h15
  have hA := am_adA hR h15
  rw [am_en_i (by omega) (by omega), hs] at hat
  have hat : H[am_ad g i]? = some (vp_cell (g.2.1 13) ((am_sh M i).2, .inl (am_mu M i))) := hat
  refine W.zast hx hb hat ((hK.1.2 2 _ rfl).1 (am_sh M i).2 (fun j => .int (am_mu M i j))) (fun q => by cases q) (by show ¬ (j < 0 ∨ (arrV _ _ _).slots.size ≤ _); rw [arrV_size]; exact hin) rfl rfl hdg fun H1 e1 z oq => ?_
  refine kk H1 _ (am_R_upd hR rfl rfl h15 (fun _ h => am_wI_en h) (fun q hq => am_rw_n (by have := am_ge hR h15; omega)) ?_ z oq) (hS.put z oq hA)
  rw [am_en_i (by show 11 ≤ (am_sh M i).1; omega) (by show (am_sh M i).1 ≠ 14; omega)]
  show H1[am_ad g i]? = some (vp_cell (g.2.1 (am_sh M i).1) ((am_sh M i).2, .inl (am_rw (am_mu M) i (upd (am_mu M i) j.toNatClampNeg x) i)))
  rw [e1, am_rw_s, hs, vp_cell_i, vp_cell_i, arrV_store, hz, am_updV]
theorem am_waast (hX : am_X g d p s m args meth c) (hR : am_R g M H) (hS : va_S (am_A g) s.heap H locs) {i v : Nat} {j : Int32} (hs : (am_sh M i).1 = 14) (hv : (am_sh M v).1 = 7) (hin : vp_in j (am_sh M i).2) (hdg : decode d.2.1 pc = .ok (.aastore, 1))
    (kk : ∀ (H1 : Heap) (locs1 : List Loc), am_R g (am_wR M i j.toNatClampNeg v) H1 → va_S (am_A g) s.heap H1 locs1 → W p l e R s m args below meth c H1 locs1 cells slots Q (F0 m (pc + 1) ls rest)) : W p l e R s m args below meth c H locs cells slots Q (F0 m pc ls (.ref (am_ad g v) :: .int j :: .ref (am_ad g i) :: rest)) := by
  obtain ⟨hx, hb, -, hown, -, hts, hK⟩ := hX
  have h15 : (am_sh M i).1 < 15 := by omega
  have hat := am_in hR h15
  have hA := am_adA hR h15
  have hlt : j.toNatClampNeg < (am_sh M i).2 := Nat.not_le.mp fun q => hin (Or.inr q)
  have h0 : ¬ j < 0 := fun q => hin (Or.inl q)
  rw [am_en_q hs] at hat
  have hat : H[am_ad g i]? = some (vp_cell (g.2.1 14) ((am_sh M i).2, .inr (.inr (.inr (.inr (fun j => am_op g (am_ro M i j))))))) := hat
  have hav := am_in hR (show (am_sh M v).1 < 15 by omega)
  have hv4 := am_ge hR (show (am_sh M v).1 < 15 by omega)
  rw [am_en_o (by omega), hv] at hav
  obtain ⟨r', hr', cellV, g1, g2, g3, -⟩ := hav
  cases (show am_cl[7]? = some (RX8, TX8, 2) from rfl).symm.trans hr'
  have hcls := (hK.1.1 7 _ rfl).2
  obtain ⟨kA, comp, k1, k2, k3, -⟩ := (hK.1.2 3 _ rfl).2
  have hcomp : comp = g.1.1 7 := Option.some.inj (k3.symm.trans hcls.1)
  subst hcomp
  obtain ⟨kC, hkC, -⟩ := hcls.2
  refine W.aast hx hb hat (fun q h => by cases h) (fun h => by cases h) k1 k2 rfl hkC ⟨h0, by show _ < (arrV _ _ _).slots.size; rw [arrV_size]; exact hlt⟩ g1 (fun q h => by rw [g3] at h; cases h) (by rw [g2]; exact hkC) (by rw [g2]; exact va_assign hcls) rfl rfl hdg fun H1 e1 z oq => ?_
  refine kk H1 _ (am_R_upd hR rfl rfl h15 (fun _ h => am_wR_en h) (fun q hq => rfl) ?_ z oq) (hS.put z oq hA)
  rw [am_en_q (by show (am_sh M i).1 = 14; exact hs)]
  show H1[am_ad g i]? = some (vp_cell (g.2.1 14) ((am_sh M i).2, .inr (.inr (.inr (.inr (fun q => am_op g (am_rw (am_ro M) i (va_up (am_ro M i) j.toNatClampNeg v) i q)))))))
  rw [e1, am_rw_s, vp_cell_q, vp_cell_q, arrV_store]
  congr 2
  funext q
  unfold updV va_up
  split
  · cases v with
    | zero => omega
    | succ n => rfl
  · rfl
end AR
end
section
/-! cells are made; rows are copied; statics -/
theorem am_mk_en {g : am_G} {M : am_M} {k n i : Nat} (h : i ≠ am_nx M) : am_en g (am_mk M k n) i = am_en g M i := by
  have h : i ≠ M.1 := h
  unfold am_en am_mk am_fv
  simp only [am_sh, am_mu, am_lg, am_ro, am_rw_n h]
theorem am_R_push {g : am_G} {M : am_M} {H H1 : Heap} {k n : Nat} (hR : am_R g M H) (hk : k < 15) (hk2 : k < 11 → ∃ r, am_cl[k]? = some r ∧ r.2.2 = n) (hat : va_at g.1 am_cl (H.size, am_en g (am_mk M k n) (am_nx M)) H1) (hz : H1.size = H.size + 1) (oq : ∀ q, q < H.size → H1[q]? = H[q]?) : am_R g (am_mk M k n) H1 := by
  obtain ⟨r1, r2, r3, r4, r5, r6, r7, r8, r9, r10⟩ := hR
  have hn1 : am_nx (am_mk M k n) = am_nx M + 1 := rfl
  have hs1 : ∀ i, i ≠ am_nx M → am_sh (am_mk M k n) i = am_sh M i := fun i h => am_rw_n h
  have hs0 : am_sh (am_mk M k n) (am_nx M) = (k, n) := am_rw_s
  have hm1 : ∀ i, i ≠ am_nx M → am_mu (am_mk M k n) i = am_mu M i := fun i h => am_rw_n h
  refine ⟨by rw [hn1, hz]; omega, by rw [hn1]; omega, fun j q hj => ?_, fun i hi => ?_, ?_, ?_, ?_, ?_, fun i hi => ?_, fun i h1 h2 => ?_⟩
  · obtain ⟨j1, j2⟩ := am_ws_at hj
    rw [hn1] at j1
    by_cases hjn : j + 4 = am_nx M
    · rw [j2, hjn]
      rw [show H.size = g.2.2.1 + j by omega] at hat
      exact hat
    · rw [j2, am_mk_en hjn]
      have h5 := r3 j _ (by rw [show j = j + 4 - 4 by omega]; exact am_ws_get (g := g) (by omega) (show j + 4 < am_nx M by omega))
      rw [am_ad_hi g (show 4 ≤ j + 4 by omega), show j + 4 - 4 = j by omega] at h5
      exact h5.kept (oq _ (h5.lt))
  · rw [hn1] at hi
    rw [hs1 i (by omega)]
    exact r4 i (by omega)
  · rw [hs1 0 (by omega), hs1 1 (by omega), hs1 2 (by omega), hs1 3 (by omega)]
    exact r5
  · rw [hm1 1 (by omega)]
    exact r6
  · rw [hm1 2 (by omega)]
    exact r7
  · rw [hm1 3 (by omega)]
    exact r8
  · by_cases h : i = am_nx M
    · subst h
      rw [hs0] at hi ⊢
      exact hk2 hi
    · rw [hs1 i h] at hi ⊢
      exact r9 i hi
  · rw [hn1] at h2
    by_cases h : i = am_nx M
    · subst h
      rw [hs0]
      exact hk
    · rw [hs1 i h]
      exact r10 i h1 (by omega)
theorem am_adnx {g : am_G} {M : am_M} {H : Heap} (hR : am_R g M H) : am_ad g (am_nx M) = H.size := by
  obtain ⟨r1, r2, -⟩ := hR
  rw [am_ad_hi g r2]
  omega
theorem am_S_push {g : am_G} {s : State} {H H1 : Heap} {locs : List Loc} (hS : va_S (am_A g) s.heap H locs) (hz : H1.size = H.size + 1) (oq : ∀ q, q < H.size → H1[q]? = H[q]?) : va_S (am_A g) s.heap H1 locs :=
  ⟨Nat.le_trans hS.1 (by omega), fun x h1 h2 => (oq x (Nat.lt_of_lt_of_le h1 hS.1)).trans (hS.2.1 x h1 h2), hS.2.2⟩
theorem am_fv0 (g : am_G) (M : am_M) (k n f : Nat) (ty : FieldType) (h : ty = .int ∨ ty = .long ∨ ty = .boolean ∨ (∃ t, ty = .array t) ∨ ∃ C, ty = .object C) : defaultValue ty = am_fv g (am_mk M k n) (am_nx M) f ty := by
  have h1 : am_mu (am_mk M k n) (am_nx M) = fun _ => 0 := am_rw_s
  have h2 : am_lg (am_mk M k n) (am_nx M) = fun _ => 0 := am_rw_s
  have h3 : am_ro (am_mk M k n) (am_nx M) = fun _ => 0 := am_rw_s
  unfold am_fv
  rcases h with rfl | rfl | rfl | ⟨t, rfl⟩ | ⟨C, rfl⟩
  · rw [h1]; rfl
  · rw [h2]; rfl
  · rw [h1]; rfl
  · rw [h3]; rfl
  · rw [h3]; rfl
def am_tyok (ty : FieldType) : Bool := match ty with
  | .int => true
  | .long => true
  | .boolean => true
  | .array _ => true
  | .object _ => true
  | _ => false
theorem am_tyok_of {ty : FieldType} (h : am_tyok ty = true) : ty = .int ∨ ty = .long ∨ ty = .boolean ∨ (∃ t, ty = .array t) ∨ ∃ C, ty = .object C := by
  cases ty <;> simp [am_tyok] at h <;> simp
section AK
variable {p : Program} {l : Launch} {e : Env} {R : Room} {s : State} {m : MethodId} {args : Array Value} {below : List Frame} {meth : Method} {c : Code} {H : Heap} {locs : List Loc} {cells slots : Nat} {Q : State → Prop}
variable {pc : Nat} {ls : Array Slot} {rest : List Value} {g : am_G} {d : am_Y} {M : am_M}
theorem am_wnew (hX : am_X g d p s m args meth c) (hR : am_R g M H) (hS : va_S (am_A g) s.heap H locs) {idx k : Nat} {r : vw_C} (hc : am_cl[k]? = some r) (hk : k < 11) (hw1 : Cond.classLink d.1.cls idx r.1 ∈ lw_tbl) (hw2 : Cond.instantiable r.1 r.2.2 ∈ lw_tbl) (hw3 : Cond.initialized r.1 ∈ lw_tbl) (hty : ∀ f, f < r.2.2 → am_tyok (am_ft k f) = true)
    (hcells : cells + 1 ≤ R.cells) (hslots : slots + r.2.2 ≤ R.slots) (hdg : decode d.2.1 pc = .ok (.new idx, 3))
    (kk : ∀ (H1 : Heap), am_R g (am_mk M k r.2.2) H1 → va_S (am_A g) s.heap H1 locs → W p l e R s m args below meth c H1 locs (cells + 1) (slots + r.2.2) Q (F0 m (pc + 3) ls (.ref (am_ad g (am_nx M)) :: rest))) : W p l e R s m args below meth c H locs cells slots Q (F0 m pc ls rest) := by
  obtain ⟨hx, hb, -, hown, -, hts, hK⟩ := hX
  obtain ⟨C, T, N⟩ := r
  have hck := am_ckof hc
  have hin2 : ∀ w ∈ u_ws C T N, w ∈ lw_tbl.filter am_stb := fun w hw => List.mem_filter.mpr ⟨hck.2.1 w hw, by
    obtain ⟨z, -, rfl⟩ := List.mem_map.mp hw
    unfold u_lay
    split <;> rfl⟩
  have hts2 : ∀ w ∈ lw_tbl.filter am_stb, w.before args s = true := fun w hw => hts w (List.mem_filter.mp hw).1 (List.mem_filter.mp hw).2
  have hKn := hK.1.1 k _ hc
  rw [am_adnx hR] at kk
  refine W.newcK hx hb hown (hts _ hw1 rfl) (hts _ hw2 rfl) (hts _ hw3 rfl) rfl hdg hcells hslots hKn.2.1 rfl fun H1 kC hkC e1 z1 o1 => ?_
  refine kk H1 (am_R_push hR (by omega) (fun _ => ⟨_, hc, rfl⟩) ?_ z1 o1) (am_S_push hS z1 o1)
  rw [am_en_o (by rw [show am_sh (am_mk M k N) (am_nx M) = (k, N) from am_rw_s]; exact hk), show am_sh (am_mk M k N) (am_nx M) = (k, N) from am_rw_s]
  refine ⟨_, hc, (u_born (am_ft k) hts2 hin2 hKn hkC e1 hck.2.2.1).to (fun f hf => ?_)⟩
  rw [am_V _ hf]
  exact am_fv0 g M k N f _ (am_tyok_of (hty f hf))
/-- an array of bytes, ints, booleans -/
theorem am_wnewa (hX : am_X g d p s m args meth c) (hR : am_R g M H) (hS : va_S (am_A g) s.heap H locs) {at' : ArrayType} {k : Nat} {n : Int32} (hk : (k = 11 ∧ at' = .byte) ∨ (k = 12 ∧ at' = .int) ∨ (k = 13 ∧ at' = .boolean)) (hw : Cond.arrayClass (newarray.typeOf at') ∈ lw_tbl) (hn : ¬ n < 0) (hn2 : n.toNatClampNeg ≤ 100000)
    (hcells : cells + 1 ≤ R.cells) (hslots : slots + n.toNatClampNeg ≤ R.slots) (hdg : decode d.2.1 pc = .ok (.newarray at', 2))
    (kk : ∀ (H1 : Heap), am_R g (am_mk M k n.toNatClampNeg) H1 → va_S (am_A g) s.heap H1 locs → W p l e R s m args below meth c H1 locs (cells + 1) (slots + n.toNatClampNeg) Q (F0 m (pc + 2) ls (.ref (am_ad g (am_nx M)) :: rest))) : W p l e R s m args below meth c H locs cells slots Q (F0 m pc ls (.int n :: rest)) := by
  obtain ⟨hx, hb, -, hown, -, hts, hK⟩ := hX
  rw [am_adnx hR] at kk
  have hcb : componentBytes (newarray.typeOf at') ≤ 8 := by rcases hk with ⟨-, rfl⟩ | ⟨-, rfl⟩ | ⟨-, rfl⟩ <;> decide
  have hbytes : n.toNatClampNeg * componentBytes (newarray.typeOf at') ≤ 536870912 := by
    have := Nat.mul_le_mul hn2 hcb
    omega
  have h0 : am_mu (am_mk M k n.toNatClampNeg) (am_nx M) = fun _ => 0 := am_rw_s
  have hs0 : am_sh (am_mk M k n.toNatClampNeg) (am_nx M) = (k, n.toNatClampNeg) := am_rw_s
  refine va_newaK hx hb (hts _ hw rfl) rfl hdg rfl hn rfl hbytes hcells hslots rfl fun H1 cA e1 z1 o1 hAr hNm => ?_
  refine kk H1 (am_R_push hR (by omega) (fun h => by omega) ?_ z1 o1) (am_S_push hS z1 o1)
  rw [am_en_i (by rw [hs0]; show 11 ≤ k; omega) (by rw [hs0]; show k ≠ 14; omega), hs0, h0]
  show H1[H.size]? = some (vp_cell (g.2.1 k) (n.toNatClampNeg, .inl (fun _ => 0)))
  rw [e1, vp_cell_i]
  rcases hk with ⟨rfl, rfl⟩ | ⟨rfl, rfl⟩ | ⟨rfl, rfl⟩
  · have hc : cA = g.2.1 11 := Option.some.inj (hNm.symm.trans (hK.1.2 0 _ rfl).2)
    rw [hc]; rfl
  · have hc : cA = g.2.1 12 := Option.some.inj (hNm.symm.trans (hK.1.2 1 _ rfl).2)
    rw [hc]; rfl
  · have hc : cA = g.2.1 13 := Option.some.inj (hNm.symm.trans (hK.1.2 2 _ rfl).2)
    rw [hc]; rfl
theorem am_wanew (hX : am_X g d p s m args meth c) (hR : am_R g M H) (hS : va_S (am_A g) s.heap H locs) {idx : Nat} {n : Int32} (hw1 : Cond.classLink d.1.cls idx "NoonJars$Row" ∈ lw_tbl) (hw2 : Cond.arrayOver (.object "NoonJars$Row") ∈ lw_tbl) (hn : ¬ n < 0) (hn2 : n.toNatClampNeg ≤ 100000)
    (hcells : cells + 1 ≤ R.cells) (hslots : slots + n.toNatClampNeg ≤ R.slots) (hdg : decode d.2.1 pc = .ok (.anewarray idx, 3))
    (kk : ∀ (H1 : Heap), am_R g (am_mk M 14 n.toNatClampNeg) H1 → va_S (am_A g) s.heap H1 locs → W p l e R s m args below meth c H1 locs (cells + 1) (slots + n.toNatClampNeg) Q (F0 m (pc + 3) ls (.ref (am_ad g (am_nx M)) :: rest))) : W p l e R s m args below meth c H locs cells slots Q (F0 m pc ls (.int n :: rest)) := by
  obtain ⟨hx, hb, -, hown, -, hts, hK⟩ := hX
  rw [am_adnx hR] at kk
  have h0 : am_ro (am_mk M 14 n.toNatClampNeg) (am_nx M) = fun _ => 0 := am_rw_s
  have hs0 : am_sh (am_mk M 14 n.toNatClampNeg) (am_nx M) = (14, n.toNatClampNeg) := am_rw_s
  refine W.anew hx hb hown (hts _ hw1 rfl) (hts _ hw2 rfl) rfl hdg rfl hn (by omega) hcells hslots fun cA kA comp f1 f2 f3 f4 => ?_
  generalize hH1 : H.push ({ cls := cA, slots := Array.replicate n.toNatClampNeg .null, vm := .none } : Cell) = H1
  have z1 : H1.size = H.size + 1 := by rw [← hH1, Array.size_push]
  have e1 : H1[H.size]? = some (arrV cA n.toNatClampNeg (fun _ => .null)) := by rw [← hH1, Array.getElem?_push_size, ← arrV_new]
  have o1 : ∀ q : Nat, q < H.size → H1[q]? = H[q]? := fun q hq => by rw [← hH1, Array.getElem?_push, if_neg (Nat.ne_of_lt hq)]
  refine kk H1 (am_R_push hR (by omega) (fun h => by omega) ?_ z1 o1) (am_S_push hS z1 o1)
  rw [am_en_q (by rw [hs0]), hs0, h0]
  show H1[H.size]? = some (vp_cell (g.2.1 14) (n.toNatClampNeg, .inr (.inr (.inr (.inr (fun _ => none))))))
  obtain ⟨kA', comp', k1, k2, k3, k4⟩ := (hK.1.2 3 _ rfl).2
  have hc : cA = g.2.1 14 := Option.some.inj (f1.symm.trans k4)
  rw [e1, vp_cell_q, hc]
  rfl
theorem am_wgets (hX : am_X g d p s m args meth c) (hS : va_S (am_A g) s.heap H locs) {idx k : Nat} (hk : (k = 2 ∧ Cond.fieldLink d.1.cls idx "NoonJars$Kinds" "LETTERS" "[C" ∈ lw_tbl) ∨ (k = 3 ∧ Cond.fieldLink d.1.cls idx "NoonJars$Pourings" "UNITS" "[I" ∈ lw_tbl)) (hdg : decode d.2.1 pc = .ok (.getstatic idx, 3))
    (kk : W p l e R s m args below meth c H locs cells slots Q (F0 m (pc + 3) ls (.ref (am_ad g k) :: rest))) : W p l e R s m args below meth c H locs cells slots Q (F0 m pc ls rest) := by
  obtain ⟨hx, hb, -, hown, -, hts, hK⟩ := hX
  rcases hk with ⟨rfl, hl⟩ | ⟨rfl, hl⟩
  · exact va_gets hx hb hK.2.1.1 hS hown (hts _ hl rfl) (fun _ h => h) hdg kk
  · exact va_gets hx hb hK.2.2.1.1 hS hown (hts _ hl rfl) (fun _ h => h) hdg kk
theorem am_wcopy (hX : am_X g d p s m args meth c) (hR : am_R g M H) (hS : va_S (am_A g) s.heap H locs) {idx i0 i1 : Nat} {sp dp n : Int32} (hw1 : Cond.methodLink d.1.cls idx arraycopyName ∈ lw_tbl) (hw2 : Cond.native arraycopyName ∈ lw_tbl) (hw3 : Cond.static arraycopyName ∈ lw_tbl) (hw4 : Cond.initialized "java/lang/System" ∈ lw_tbl)
    (hml : ls.size = d.2.2.1) (hs0 : (am_sh M i0).1 = 12) (hs1 : (am_sh M i1).1 = 12) (h1 : ¬ sp < 0) (h2 : ¬ dp < 0) (h3 : ¬ n < 0) (h4 : sp.toNatClampNeg + n.toNatClampNeg ≤ (am_sh M i0).2) (h5 : dp.toNatClampNeg + n.toNatClampNeg ≤ (am_sh M i1).2)
    (hframes : 1 ≤ R.frames) (hlocals : (rest.map fun v => v.category).sum + (nativeFrameWords "java/lang/System" "arraycopy" 5 + 11) ≤ R.locals) (hdg : decode d.2.1 pc = .ok (.invokestatic idx, 3))
    (kk : ∀ (H1 : Heap) (locs1 : List Loc), am_R g (am_wA M i1 (va_cpy (am_mu M i0) (am_mu M i1) sp.toNatClampNeg dp.toNatClampNeg n.toNatClampNeg)) H1 → va_S (am_A g) s.heap H1 locs1 → W p l e R s m args below meth c H1 locs1 cells slots Q (F0 m (pc + 3) ls rest)) : W p l e R s m args below meth c H locs cells slots Q (F0 m pc ls (.int n :: .int dp :: .ref (am_ad g i1) :: .int sp :: .ref (am_ad g i0) :: rest)) := by
  obtain ⟨hx, hb, hmx, hown, -, hts, hK⟩ := hX
  have nn : ∀ z : Int32, ¬ z < 0 → z.toInt = (z.toNatClampNeg : Int) := by
    intro z hz
    have hz0 : (0 : Int) ≤ z.toInt := by
      have := Int32.not_lt.mp hz
      simpa using Int32.le_iff_toInt_le.mp this
    show z.toInt = ((z.toInt.toNat : Nat) : Int)
    omega
  have h15 : (am_sh M i1).1 < 15 := by omega
  have hA := am_adA hR h15
  have hc0 := am_in hR (show (am_sh M i0).1 < 15 by omega)
  have hc1 := am_in hR h15
  rw [am_en_i (by omega) (by omega), hs0] at hc0
  rw [am_en_i (by omega) (by omega), hs1] at hc1
  have hc0 : H[am_ad g i0]? = some (vp_cell (g.2.1 12) ((am_sh M i0).2, .inl (am_mu M i0))) := hc0
  have hc1 : H[am_ad g i1]? = some (vp_cell (g.2.1 12) ((am_sh M i1).2, .inl (am_mu M i1))) := hc1
  intro T hT X
  obtain ⟨-, k0, hk0, cm0, hkk0⟩ := (hK.1.2 1 _ rfl).1 (am_sh M i0).2 (fun j => .int (am_mu M i0 j))
  obtain ⟨-, k1, hk1, cm1, hkk1⟩ := (hK.1.2 1 _ rfl).1 (am_sh M i1).2 (fun j => .int (am_mu M i1 j))
  obtain ⟨vm', X', step⟩ := X.arraycopy hx hown (hts _ hw1 rfl) (hts _ hw2 rfl) (hts _ hw3 rfl) (hts _ hw4 rfl) (src := am_ad g i0) (dst := am_ad g i1) (cs := vp_cell (g.2.1 12) ((am_sh M i0).2, .inl (am_mu M i0))) (cd := vp_cell (g.2.1 12) ((am_sh M i1).2, .inl (am_mu M i1))) (srcPos := sp) (destPos := dp) (n := n) (by rw [hT]; exact hc0) (by rw [hT]; exact hc1)
    (fun _ h => by cases h) (fun _ h => by cases h) (fun h => by cases h) (fun h => by cases h) hk0 hk1 hkk0 hkk1 (by simp [refKind]) h1 h2 h3
    (by rw [nn sp h1, nn n h3]; show ¬ _ > ((arrV _ _ (fun j => .int (am_mu M i0 j))).slots.size : Int); rw [arrV_size]; omega)
    (by rw [nn dp h2, nn n h3]; show ¬ _ > ((arrV _ _ (fun j => .int (am_mu M i1 j))).slots.size : Int); rw [arrV_size]; omega)
    (fun vm₁ _ i hi => by
      have e : (vp_cell (g.2.1 12) ((am_sh M i0).2, .inl (am_mu M i0))).slots.getD (sp.toNatClampNeg + i) .null = .int (am_mu M i0 (sp.toNatClampNeg + i)) := by
        show (arrV _ _ (fun j => .int (am_mu M i0 j))).slots.getD _ _ = _
        rw [Array.getD_eq_getD_getElem?, arrV_read _ _ (by omega)]
        rfl
      refine ⟨?_, ?_⟩
      · rw [e]
        rfl
      · rw [e]
        exact trivial)
    (g := F0 m pc ls (.int n :: .int dp :: .ref (am_ad g i1) :: .int sp :: .ref (am_ad g i0) :: rest)) rfl (by show ls.size = c.maxLocals; rw [hmx]; exact hml) (rest := rest) rfl (by rw [hb]; exact hdg) hframes (by show 2 * 0 + _ + _ ≤ _; omega)
  have e1 : copied (vp_cell (g.2.1 12) ((am_sh M i0).2, .inl (am_mu M i0))) (vp_cell (g.2.1 12) ((am_sh M i1).2, .inl (am_mu M i1))) sp dp n = vp_cell (g.2.1 12) ((am_sh M i1).2, .inl (va_cpy (am_mu M i0) (am_mu M i1) sp.toNatClampNeg dp.toNatClampNeg n.toNatClampNeg)) := va_copied (fun z => .int z) _ _ (am_mu M i0) (am_mu M i1) h4
  rw [e1] at X' step
  generalize hcell : vp_cell (g.2.1 12) ((am_sh M i1).2, .inl (va_cpy (am_mu M i0) (am_mu M i1) sp.toNatClampNeg dp.toNatClampNeg n.toNatClampNeg)) = cell at X' step
  have hl : am_ad g i1 < H.size := (Array.getElem?_eq_some_iff.mp hc1).1
  have hheap : ((T.setVm vm').setCell (am_ad g i1) cell).heap = H.setIfInBounds (am_ad g i1) cell := by rw [← hT]; rfl
  have oq : ∀ q : Nat, q ≠ am_ad g i1 → (H.setIfInBounds (am_ad g i1) cell)[q]? = H[q]? := fun q hq => by simp [Array.getElem?_setIfInBounds, Ne.symm hq]
  have hz : (H.setIfInBounds (am_ad g i1) cell).size = H.size := by simp
  obtain ⟨t, a1, b1⟩ := kk _ _ (am_R_upd hR rfl rfl h15 (fun _ h => am_wA_en h) (fun q hq => am_rw_n (by have := am_ge hR h15; omega)) (by
      rw [am_en_i (by show 11 ≤ (am_sh M i1).1; omega) (by show (am_sh M i1).1 ≠ 14; omega)]
      show (H.setIfInBounds (am_ad g i1) cell)[am_ad g i1]? = some (vp_cell (g.2.1 (am_sh M i1).1) ((am_sh M i1).2, .inl (am_rw (am_mu M) i1 _ i1)))
      rw [am_rw_s, hs1, hcell]
      simp [Array.getElem?_setIfInBounds, hl]) hz oq) ⟨by rw [hz]; exact hS.1, fun q g1 g2 => by
      rw [oq q (fun e => g2 (by rw [e]; exact hA))]
      exact hS.2.1 q g1 g2, fun q hq => by
      rcases List.mem_append.mp hq with h | h
      · exact hS.2.2 q h
      · obtain ⟨z, -, hz⟩ := List.mem_map.mp h
        rw [← hz]
        exact hA⟩ _ hheap X'
  exact ⟨t, step t a1, b1⟩
end AK
end
section
/-! the judgement: from pc with these locals and this stack over M the method ends as o says, if o says -/
def am_rt (d : am_Y) (pc : Nat) : Option Value → Prop
  | none => decode d.2.1 pc = .ok (.return_, 1) ∧ d.2.2.2.1 = none
  | some (.int x) => decode d.2.1 pc = .ok (.ireturn, 1) ∧ ∃ ty, d.2.2.2.1 = some ty ∧ narrow ty (.int x) = .int x
  | some (.long _) => decode d.2.1 pc = .ok (.lreturn, 1) ∧ d.2.2.2.1 = some .long
  | some (.ref _) => decode d.2.1 pc = .ok (.areturn, 1) ∧ ∃ C, d.2.2.2.1 = some (.object C)
  | _ => False
def am_W (l : Launch) (g : am_G) (d : am_Y) (pc : Nat) (LS : am_L) (st : List Value) (M : am_M) (v : Option Value) (M' : am_M) : Prop :=
  ∀ (p : Program) (e : Env) (R : Room) (s : State) (m : MethodId) (args : Array Value) (below : List Frame) (meth : Method) (c : Code), am_X g d p s m args meth c →
  ∀ (H : Heap) (locs : List Loc) (cells slots : Nat) (ls : Array Slot) (Q : State → Prop), am_ll g ls d.2.2.1 LS → am_R g M H → va_S (am_A g) s.heap H locs → d.2.2.2.2.1 ≤ R.frames → d.2.2.2.2.2 ≤ R.locals →
  cells + (am_nx M' - am_nx M) ≤ R.cells → slots + (am_sl M' - am_sl M) ≤ R.slots →
  (∀ (H' : Heap) (locs' : List Loc) (ls' : Array Slot) (pc' : Nat), am_R g M' H' → va_S (am_A g) s.heap H' locs' → am_rt d pc' v →
    W p l e R s m args below meth c H' locs' (cells + (am_nx M' - am_nx M)) (slots + (am_sl M' - am_sl M)) Q (F0 m pc' ls' (v.toList.map (am_tr g)))) →
  W p l e R s m args below meth c H locs cells slots Q (F0 m pc ls (st.map (am_tr g)))
def am_E (l : Launch) (g : am_G) (d : am_Y) (pc : Nat) (LS : am_L) (st : List Value) (M : am_M) (o : Option (Option Value × am_M)) : Prop :=
  ∀ v M', o = some (v, M') → (am_nx M ≤ am_nx M' ∧ am_sl M ≤ am_sl M') ∧ am_W l g d pc LS st M v M'
section AE
variable {l : Launch} {g : am_G} {d : am_Y} {pc : Nat} {LS : am_L} {st : List Value} {M : am_M} {o : Option (Option Value × am_M)}
theorem am_none : am_E l g d pc LS st M none := fun v M' h => by cases h
/-- a step that leaves M -/
theorem am_goS {pc' : Nat} {LS' : am_L} {st' : List Value} (h : ∀ (p : Program) (e : Env) (R : Room) (s : State) (m : MethodId) (args : Array Value) (below : List Frame) (meth : Method) (c : Code), am_X g d p s m args meth c →
    ∀ (H : Heap) (locs : List Loc) (cells slots : Nat) (ls : Array Slot) (Q : State → Prop), am_ll g ls d.2.2.1 LS → am_R g M H → va_S (am_A g) s.heap H locs →
    (∀ ls' : Array Slot, am_ll g ls' d.2.2.1 LS' → W p l e R s m args below meth c H locs cells slots Q (F0 m pc' ls' (st'.map (am_tr g)))) → W p l e R s m args below meth c H locs cells slots Q (F0 m pc ls (st.map (am_tr g))))
    (k : am_E l g d pc' LS' st' M o) : am_E l g d pc LS st M o := by
  intro v M' ho
  obtain ⟨hm, hw⟩ := k v M' ho
  exact ⟨hm, fun p e R s m args below meth c hX H locs cells slots ls Q hl hR hS h1 h2 h3 h4 hk => h p e R s m args below meth c hX H locs cells slots ls Q hl hR hS (fun ls' hl' => hw p e R s m args below meth c hX H locs cells slots ls' Q hl' hR hS h1 h2 h3 h4 hk)⟩
/-- a step that writes -/
theorem am_goM {pc' : Nat} {st' : List Value} {M1 : am_M} (hn : am_nx M1 = am_nx M) (hl : am_sl M1 = am_sl M) (h : ∀ (p : Program) (e : Env) (R : Room) (s : State) (m : MethodId) (args : Array Value) (below : List Frame) (meth : Method) (c : Code), am_X g d p s m args meth c →
    ∀ (H : Heap) (locs : List Loc) (cells slots : Nat) (ls : Array Slot) (Q : State → Prop), am_ll g ls d.2.2.1 LS → am_R g M H → va_S (am_A g) s.heap H locs → d.2.2.2.2.1 ≤ R.frames → d.2.2.2.2.2 ≤ R.locals →
    (∀ (H1 : Heap) (locs1 : List Loc), am_R g M1 H1 → va_S (am_A g) s.heap H1 locs1 → W p l e R s m args below meth c H1 locs1 cells slots Q (F0 m pc' ls (st'.map (am_tr g)))) → W p l e R s m args below meth c H locs cells slots Q (F0 m pc ls (st.map (am_tr g))))
    (k : am_E l g d pc' LS st' M1 o) : am_E l g d pc LS st M o := by
  intro v M' ho
  obtain ⟨hm, hw⟩ := k v M' ho
  unfold am_W at hw
  rw [hn, hl] at hw hm
  exact ⟨hm, fun p e R s m args below meth c hX H locs cells slots ls Q hl hR hS h1 h2 h3 h4 hk => h p e R s m args below meth c hX H locs cells slots ls Q hl hR hS h1 h2 (fun H1 locs1 hR1 hS1 => hw p e R s m args below meth c hX H1 locs1 cells slots ls Q hl hR1 hS1 h1 h2 h3 h4 hk)⟩
/-- a step that makes a cell -/
theorem am_goA {pc' : Nat} {st' : List Value} {kd n : Nat} (h : ∀ (p : Program) (e : Env) (R : Room) (s : State) (m : MethodId) (args : Array Value) (below : List Frame) (meth : Method) (c : Code), am_X g d p s m args meth c →
    ∀ (H : Heap) (locs : List Loc) (cells slots : Nat) (ls : Array Slot) (Q : State → Prop), am_ll g ls d.2.2.1 LS → am_R g M H → va_S (am_A g) s.heap H locs → cells + 1 ≤ R.cells → slots + n ≤ R.slots →
    (∀ (H1 : Heap), am_R g (am_mk M kd n) H1 → va_S (am_A g) s.heap H1 locs → W p l e R s m args below meth c H1 locs (cells + 1) (slots + n) Q (F0 m pc' ls (st'.map (am_tr g)))) → W p l e R s m args below meth c H locs cells slots Q (F0 m pc ls (st.map (am_tr g))))
    (k : am_E l g d pc' LS st' (am_mk M kd n) o) : am_E l g d pc LS st M o := by
  intro v M' ho
  obtain ⟨hm, hw⟩ := k v M' ho
  have e1 : am_nx (am_mk M kd n) = am_nx M + 1 := rfl
  have e2 : am_sl (am_mk M kd n) = am_sl M + n := rfl
  unfold am_W at hw
  rw [e1, e2] at hw hm
  refine ⟨by omega, fun p e R s m args below meth c hX H locs cells slots ls Q hl hR hS h1 h2 h3 h4 hk => h p e R s m args below meth c hX H locs cells slots ls Q hl hR hS (by omega) (by omega) (fun H1 hR1 hS1 => hw p e R s m args below meth c hX H1 locs (cells + 1) (slots + n) ls Q hl hR1 hS1 h1 h2 (by omega) (by omega) (fun H' locs' ls' pc2 a1 a2 a3 => ?_))⟩
  have := hk H' locs' ls' pc2 a1 a2 a3
  rw [show cells + 1 + (am_nx M' - (am_nx M + 1)) = cells + (am_nx M' - am_nx M) by omega, show slots + n + (am_sl M' - (am_sl M + n)) = slots + (am_sl M' - am_sl M) by omega]
  exact this
/-- a method's end -/
theorem am_end {v : Option Value} (hs : st = v.toList) (hr : am_rt d pc v) : am_E l g d pc LS st M (some (v, M)) := by
  intro v' M' ho
  cases ho
  refine ⟨⟨Nat.le_refl _, Nat.le_refl _⟩, fun p e R s m args below meth c hX H locs cells slots ls Q hl hR hS h1 h2 h3 h4 hk => ?_⟩
  have := hk H locs ls pc hR hS hr
  rw [Nat.sub_self, Nat.sub_self, Nat.add_zero, Nat.add_zero] at this
  rw [hs]
  exact this
end AE
/-! a callee -/
def am_ent (d : am_Y) (As : List Value) : am_L := am_ents As ++ List.replicate (d.2.2.1 - (am_ents As).length) none
def am_wl (d : am_Y) : List Cond := Cond.code d.1 d.2.1 d.2.2.1 d.2.2.2.1 :: lw_tbl.filter am_stb
def am_Pc (g : am_G) (As : List Value) (M : am_M) : Array Value → State → Prop := fun a U => a = (As.map (am_tr g)).toArray ∧ am_R g M U.heap ∧ am_K g U U.heap
def am_Qc (g : am_G) (v : Option Value) (M : am_M) : Array Value → State → Outcome → State → Prop := fun _ st o t => o = .returned (v.map (am_tr g)) ∧ am_R g M t.heap ∧ va_F (am_A g) st t
def am_rm (d : am_Y) (mc ms : Nat) : Room := { frames := d.2.2.2.2.1, cells := mc, slots := ms, locals := d.2.2.2.2.2 }
theorem am_ents_len (vs : List Value) (g : am_G) : (lg_sl (vs.map (am_tr g))).length = (am_ents vs).length := by
  induction vs with
  | nil => rfl
  | cons v t ih =>
    simp only [lg_sl, List.map_cons, List.flatMap_cons, am_tr_cat, List.length_append] at ih ⊢
    rw [ih]
    by_cases hc : v.category = 2
    · rw [if_pos hc, show am_ents (v :: t) = some v :: none :: am_ents t by simp [am_ents, hc]]
      simp; omega
    · rw [if_neg hc, show am_ents (v :: t) = some v :: am_ents t by simp [am_ents, hc]]
      simp; omega
set_option maxHeartbeats 1000000 in
theorem am_met {l : Launch} {g : am_G} {d : am_Y} {As : List Value} {M M1 : am_M} {v : Option Value} {oc : Option (Option Value × am_M)} (hy : plainName d.1.cls = true) (hml : (am_ents As).length ≤ d.2.2.1) (hE : am_E l g d 0 (am_ent d As) [] M oc) (ho : oc = some (v, M1)) :
    Met l d.1 (am_wl d) (am_rm d (am_nx M1 - am_nx M) (am_sl M1 - am_sl M)) (am_Pc g As M) (am_Qc g v M1) (am_nx M1 - am_nx M) (am_sl M1 - am_sl M) (am_A g) := by
  refine Met.ofW (cc := d.2.1) (maxL := d.2.2.1) (ret := d.2.2.2.1) (ws' := lw_tbl.filter am_stb) hy rfl ?_
  intro p e s m args below meth c s₁ B hmx hv
  obtain ⟨rfl, hR, hK⟩ := hv
  have hx := B.exec
  have hb := B.bytes
  have hr := B.returns
  have hts0 := atoms_spec (ws := am_wl d) B.pre
  have hts : am_ts ((As.map (am_tr g)).toArray) s := fun w hw hs => hts0 w (List.mem_cons_of_mem _ (List.mem_filter.mpr ⟨hw, hs⟩))
  have hown : s.vm.findClass d.1.cls = some m.cls := findClass_of_methodNamed B.named
  have hlocks := B.notSynchronized
  have hnm : meth.name = d.1.name := (name_of_methodNamed B.named B.method).1
  have hl := lv_entry (As.map (am_tr g)) (n := d.2.2.1) (by rw [am_ents_len]; exact hml)
  rw [lg_entry_eq]
  generalize (lg_sl (As.map (am_tr g)) ++ List.replicate (d.2.2.1 - (lg_sl (As.map (am_tr g))).length) Slot.unset).toArray = ls at hl ⊢
  have hl2 : am_ll g ls d.2.2.1 (am_ent d As) := by
    unfold am_ll am_ent
    rw [am_lv_app, am_ents_args]
    exact hl
  obtain ⟨hm, hw⟩ := hE v M1 ho
  have hS : va_S (am_A g) s.heap s.heap [] := va_S.rf
  refine hw p e _ s m _ below meth c ⟨hx, hb, hmx, hown, hnm, hts, hK⟩ s.heap [] 0 0 ls _ hl2 hR hS (Nat.le_refl _) (Nat.le_refl _) (by rw [Nat.zero_add]; exact Nat.le_refl _) (by rw [Nat.zero_add]; exact Nat.le_refl _) ?_
  intro H' locs' ls' pc' hR' hS' hrt
  rw [Nat.zero_add, Nat.zero_add]
  have hq : ∀ t : State, t.heap = H' → s.WarmedH t.vm → am_Qc g v M1 ((As.map (am_tr g)).toArray) s (.returned (v.map (am_tr g))) t := fun t ht _ => ⟨rfl, by rw [ht]; exact hR', hS'.F ht⟩
  cases v with
  | none => exact W.vret hx hb (by rw [hr]; exact hrt.2) hq hS'.2.2 hrt.1 hlocks
  | some v =>
    cases v with
    | int x =>
      obtain ⟨h1, ty, h2, h3⟩ := hrt
      exact W.zret hx hb (by rw [hr]; exact h2) h3 hq hS'.2.2 h1 hlocks
    | long x => exact W.lret hx hb (by rw [hr]; exact hrt.2) hq hS'.2.2 hrt.1 hlocks
    | ref x =>
      obtain ⟨h1, C, h2⟩ := hrt
      exact W.aret hx hb (by rw [hr]; exact h2) (Or.inl ⟨_, rfl⟩) (Or.inr ⟨_, rfl⟩) hq hS'.2.2 h1 hlocks
    | _ => exact absurd hrt (fun h => h)
end
section
/-! calls -/
def am_Yok (y : am_Y) (n : Nat) : Prop := Cond.code y.1 y.2.1 y.2.2.1 y.2.2.2.1 ∈ lw_tbl ∧ Cond.initialized y.1.cls ∈ lw_tbl ∧ plainName y.1.cls = true ∧ (y.1.cls ≠ "java/lang/invoke/MethodHandle" ∧ y.1.cls ≠ "java/lang/invoke/VarHandle") ∧ (parseMethodDescriptor y.1.desc).map (fun d => d.parameters.length) = some n
/-- static, or special (a constructor), or virtual -/
def am_SM (y : am_Y) : Prop := Cond.static y.1 ∈ lw_tbl
def am_IM (y : am_Y) : Prop := Cond.instanceMethod y.1 ∈ lw_tbl
def am_VM (y : am_Y) : Prop := Cond.instanceMethod y.1 ∈ lw_tbl ∧ Cond.selects y.1.cls y.1 y.1 ∈ lw_tbl
def am_Ml (own : String) (idx : Nat) (y : am_Y) : Prop := Cond.methodLink own idx y.1 ∈ lw_tbl ∨ ∃ host, Cond.methodLinkNest own idx y.1 host ∈ lw_tbl
def am_fit (y d : am_Y) : Prop := y.2.2.2.2.1 + 1 ≤ d.2.2.2.2.1 ∧ 8 + (y.2.2.1 + 11) + y.2.2.2.2.2 ≤ d.2.2.2.2.2
theorem am_Pc_blind (g : am_G) (As : List Value) (M : am_M) : FrameBlind (am_Pc g As M) := fun a U f mk h => ⟨h.1, h.2.1, am_K_moved (u := U) (U := U.calling f mk a) (Vm.Alike.refl U.vm) h.2.2⟩
section AC
variable {p : Program} {l : Launch} {e : Env} {R : Room} {s : State} {m : MethodId} {args : Array Value} {below : List Frame} {meth : Method} {c : Code} {H : Heap} {locs : List Loc} {cells slots : Nat} {Q : State → Prop}
variable {pc : Nat} {ls : Array Slot} {rest st0 : List Value} {g : am_G} {d y : am_Y} {M M1 : am_M}
/-- behind a call -/
theorem am_back {v : Option Value} {a : Array Value} {mc ms : Nat} (hK : am_K g s s.heap) (hr : va_Run p l e R s m args below meth c H locs cells slots mc ms (F0 m pc ls st0) rest (am_Qc g v M1 a) (am_A g)) (hS : va_S (am_A g) s.heap H locs)
    (kk : ∀ (H1 : Heap) (locs1 : List Loc), am_R g M1 H1 → va_S (am_A g) s.heap H1 locs1 → W p l e R s m args below meth c H1 locs1 (cells + mc) (slots + ms) Q (F0 m (pc + 3) ls ((v.map (am_tr g)).toList ++ rest))) : W p l e R s m args below meth c H locs cells slots Q (F0 m pc ls st0) := by
  intro T hT X
  obtain ⟨v', st₀, t, T', L, h0, X', hL, e1, e2, ⟨hv, hR1, hz, hk⟩, st⟩ := hr T hT X
  cases hv
  rw [h0] at hz hk
  obtain ⟨t2, a1, b1⟩ := kk T'.heap (locs ++ L) (by rw [e1]; exact hR1) ⟨Nat.le_trans hS.1 (by rw [e1]; exact hz), fun q h1 h2 => by rw [e1, hk q (Nat.lt_of_lt_of_le h1 hS.1) h2]; exact hS.2.1 q h1 h2, fun q hq => by
      rcases List.mem_append.mp hq with h | h
      · exact hS.2.2 q h
      · exact hL q h⟩ T' rfl X'
  exact ⟨t2, st t2 a1, b1⟩
theorem am_wds (hts : am_ts args s) {n : Nat} (hy : am_Yok y n) : ∀ w ∈ am_wl y, ∀ (a' : Array Value) (U : State), s.WarmedH U.vm → w.before a' U = true := by
  intro w hw a' U hW
  rcases List.mem_cons.mp hw with h | h
  · subst h
    exact am_ts_warm hts hW _ hy.1 rfl
  · exact am_ts_warm hts hW w (List.mem_filter.mp h).1 (List.mem_filter.mp h).2
theorem am_wcallS {idx n : Nat} {As : List Value} {v : Option Value} {oc : Option (Option Value × am_M)} (hX : am_X g d p s m args meth c) {LS0 : am_L} (hl : am_ll g ls d.2.2.1 LS0) (hR : am_R g M H) (hS : va_S (am_A g) s.heap H locs) (hf : am_fit y d) (h1 : d.2.2.2.2.1 ≤ R.frames) (h2 : d.2.2.2.2.2 ≤ R.locals)
    (hy : am_Yok y n) (hst : am_SM y) (hlk : am_Ml d.1.cls idx y) (hn : As.length = n) (hml : (am_ents As).length ≤ y.2.2.1) (hcat : (rest.map fun v => v.category).sum ≤ 8) (hdg : decode d.2.1 pc = .ok (.invokestatic idx, 3)) (hE : am_E l g y 0 (am_ent y As) [] M oc) (ho : oc = some (v, M1))
    (hc : cells + (am_nx M1 - am_nx M) ≤ R.cells ∧ slots + (am_sl M1 - am_sl M) ≤ R.slots)
    (kk : ∀ (H1 : Heap) (locs1 : List Loc), am_R g M1 H1 → va_S (am_A g) s.heap H1 locs1 → W p l e R s m args below meth c H1 locs1 (cells + (am_nx M1 - am_nx M)) (slots + (am_sl M1 - am_sl M)) Q (F0 m (pc + 3) ls ((v.map (am_tr g)).toList ++ rest))) : W p l e R s m args below meth c H locs cells slots Q (F0 m pc ls ((As.map (am_tr g)).reverse ++ rest)) := by
  obtain ⟨hx, hb, hmx, hown, hnm, hts, hK⟩ := hX
  have hM := am_met hy.2.2.1 hml hE ho
  have hlen : ∀ sig, parseMethodDescriptor y.1.desc = some sig → n = sig.parameters.length := fun sig h => by
    have h5 := hy.2.2.2.2
    rw [h] at h5
    exact (Option.some.inj h5).symm
  have hcode : (Cond.code y.1 y.2.1 y.2.2.1 y.2.2.2.1).before args s = true := hts _ hy.1 rfl
  have hini : (Cond.initialized y.1.cls).before args s = true := hts _ hy.2.1 rfl
  have hw := am_wds hts hy
  have hp : PreS s H (am_Pc g As M) (As.map (am_tr g)) := ⟨am_Pc_blind g As M, fun U hU hW => ⟨rfl, by rw [hU]; exact hR, by rw [hU]; exact am_K_moved hW.alike (am_S_K hK hS)⟩⟩
  rcases hlk with hlk | ⟨host, hlk⟩
  · refine am_back hK (va_runS (bytes := y.2.1) (maxL := y.2.2.1) (ret := y.2.2.2.1) (Ts := []) ⟨hx, hb, hmx, hown, fun w h => by cases h⟩ hM ⟨⟨rfl, rfl, Nat.le_trans hf.1 h1, Nat.le_trans hf.2 h2, hw, List.mem_cons_self, hcode, hini, hy.2.2.2.1, hlen, hts _ hlk rfl⟩, hts _ hst rfl⟩ hp rfl (by rw [List.length_map]; exact hn) hl.1 rfl (lv_room hcat) hdg hc) hS kk
  · refine am_back hK (va_runSN (bytes := y.2.1) (maxL := y.2.2.1) (ret := y.2.2.2.1) (host := host) (Ts := []) ⟨hx, hb, hmx, hown, fun w h => by cases h⟩ hM ⟨⟨⟨rfl, rfl, Nat.le_trans hf.1 h1, Nat.le_trans hf.2 h2, hw, List.mem_cons_self⟩, hcode, hini, hy.2.2.2.1, hlen, hts _ hlk rfl⟩, hts _ hst rfl, trivial⟩ hp rfl (by rw [List.length_map]; exact hn) hl.1 rfl (lv_room hcat) hdg hc) hS kk
theorem am_wcallI {idx n b : Nat} {As : List Value} {v : Option Value} {oc : Option (Option Value × am_M)} (hX : am_X g d p s m args meth c) {LS0 : am_L} (hl : am_ll g ls d.2.2.1 LS0) (hR : am_R g M H) (hS : va_S (am_A g) s.heap H locs) (hf : am_fit y d) (h1 : d.2.2.2.2.1 ≤ R.frames) (h2 : d.2.2.2.2.2 ≤ R.locals)
    (hy : am_Yok y n) (hrt : y.2.2.2.1 = none) (hini2 : y.1.name = "<init>") (hst : am_IM y) (hlk : am_Ml d.1.cls idx y) (hn : As.length = n) (hml : (am_ents (.ref b :: As)).length ≤ y.2.2.1) (hcat : (rest.map fun v => v.category).sum ≤ 8) (hdg : decode d.2.1 pc = .ok (.invokespecial idx, 3)) (hE : am_E l g y 0 (am_ent y (.ref b :: As)) [] M oc) (ho : oc = some (v, M1))
    (hc : cells + (am_nx M1 - am_nx M) ≤ R.cells ∧ slots + (am_sl M1 - am_sl M) ≤ R.slots)
    (kk : ∀ (H1 : Heap) (locs1 : List Loc), am_R g M1 H1 → va_S (am_A g) s.heap H1 locs1 → W p l e R s m args below meth c H1 locs1 (cells + (am_nx M1 - am_nx M)) (slots + (am_sl M1 - am_sl M)) Q (F0 m (pc + 3) ls ((v.map (am_tr g)).toList ++ rest))) : W p l e R s m args below meth c H locs cells slots Q (F0 m pc ls ((As.map (am_tr g)).reverse ++ .ref (am_ad g b) :: rest)) := by
  obtain ⟨hx, hb, hmx, hown, hnm, hts, hK⟩ := hX
  have hM := am_met hy.2.2.1 hml hE ho
  have hlen : ∀ sig, parseMethodDescriptor y.1.desc = some sig → n = sig.parameters.length := fun sig h => by
    have h5 := hy.2.2.2.2
    rw [h] at h5
    exact (Option.some.inj h5).symm
  have hcode : (Cond.code y.1 y.2.1 y.2.2.1 y.2.2.2.1).before args s = true := hts _ hy.1 rfl
  rw [hrt] at hcode
  have hini : (Cond.initialized y.1.cls).before args s = true := hts _ hy.2.1 rfl
  have hw := am_wds hts hy
  have hmem : Cond.code y.1 y.2.1 y.2.2.1 none ∈ am_wl y := by rw [← hrt]; exact List.mem_cons_self
  have hp : PreS s H (am_Pc g (.ref b :: As) M) (.ref (am_ad g b) :: As.map (am_tr g)) := ⟨am_Pc_blind g _ M, fun U hU hW => ⟨rfl, by rw [hU]; exact hR, by rw [hU]; exact am_K_moved hW.alike (am_S_K hK hS)⟩⟩
  rcases hlk with hlk | ⟨host, hlk⟩
  · refine am_back hK (va_runI (bytes := y.2.1) (maxL := y.2.2.1) (Ts := []) ⟨hx, hb, hmx, hown, fun w h => by cases h⟩ hM ⟨⟨rfl, rfl, Nat.le_trans hf.1 h1, Nat.le_trans hf.2 h2, hw, hmem, hcode, hini, hy.2.2.2.1, hlen, hts _ hlk rfl⟩, hini2, hts _ hst rfl⟩ hp rfl (by rw [List.length_map]; exact hn) hl.1 rfl (lv_room hcat) hdg hc) hS kk
  · refine am_back hK (va_runIN (bytes := y.2.1) (maxL := y.2.2.1) (host := host) (Ts := []) ⟨hx, hb, hmx, hown, fun w h => by cases h⟩ hM ⟨⟨⟨rfl, rfl, Nat.le_trans hf.1 h1, Nat.le_trans hf.2 h2, hw, hmem⟩, hcode, hini, hy.2.2.2.1, hlen, hts _ hlk rfl⟩, hini2, hts _ hst rfl⟩ hp rfl (by rw [List.length_map]; exact hn) hl.1 rfl (lv_room hcat) hdg hc) hS kk
theorem am_wcallV {idx n b k : Nat} {r : vw_C} {As : List Value} {v : Option Value} {oc : Option (Option Value × am_M)} (hX : am_X g d p s m args meth c) {LS0 : am_L} (hl : am_ll g ls d.2.2.1 LS0) (hR : am_R g M H) (hS : va_S (am_A g) s.heap H locs) (hf : am_fit y d) (h1 : d.2.2.2.2.1 ≤ R.frames) (h2 : d.2.2.2.2.2 ≤ R.locals)
    (hy : am_Yok y n) (hst : am_VM y) (hcl : am_cl[k]? = some r) (hrc : r.1 = y.1.cls) (hk : k < 11) (hsb : (am_sh M b).1 = k) (hlk : am_Ml d.1.cls idx y) (hn : As.length = n) (hml : (am_ents (.ref b :: As)).length ≤ y.2.2.1) (hcat : (rest.map fun v => v.category).sum ≤ 8) (hdg : decode d.2.1 pc = .ok (.invokevirtual idx, 3)) (hE : am_E l g y 0 (am_ent y (.ref b :: As)) [] M oc) (ho : oc = some (v, M1))
    (hc : cells + (am_nx M1 - am_nx M) ≤ R.cells ∧ slots + (am_sl M1 - am_sl M) ≤ R.slots)
    (kk : ∀ (H1 : Heap) (locs1 : List Loc), am_R g M1 H1 → va_S (am_A g) s.heap H1 locs1 → W p l e R s m args below meth c H1 locs1 (cells + (am_nx M1 - am_nx M)) (slots + (am_sl M1 - am_sl M)) Q (F0 m (pc + 3) ls ((v.map (am_tr g)).toList ++ rest))) : W p l e R s m args below meth c H locs cells slots Q (F0 m pc ls ((As.map (am_tr g)).reverse ++ .ref (am_ad g b) :: rest)) := by
  obtain ⟨hx, hb, hmx, hown, hnm, hts, hK⟩ := hX
  have hM := am_met hy.2.2.1 hml hE ho
  have hlen : ∀ sig, parseMethodDescriptor y.1.desc = some sig → n = sig.parameters.length := fun sig h => by
    have h5 := hy.2.2.2.2
    rw [h] at h5
    exact (Option.some.inj h5).symm
  have hcode : (Cond.code y.1 y.2.1 y.2.2.1 y.2.2.2.1).before args s = true := hts _ hy.1 rfl
  have hini : (Cond.initialized y.1.cls).before args s = true := hts _ hy.2.1 rfl
  have hw := am_wds hts hy
  have hat := am_at hR (show (am_sh M b).1 < 15 by omega)
  rw [am_en_o (by omega), hsb] at hat
  have hrv := va_recv hK.1 hR.2.2.1 hcl hat
  rw [hrc] at hrv
  have hp : PreV s H y.1.cls (am_ad g b) (am_Pc g (.ref b :: As) M) (As.map (am_tr g)) := ⟨am_Pc_blind g _ M, hrv, fun U hU hW => ⟨rfl, by rw [hU]; exact hR, by rw [hU]; exact am_K_moved hW.alike (am_S_K hK hS)⟩⟩
  rcases hlk with hlk | ⟨host, hlk⟩
  · refine am_back hK (va_runV (bytes := y.2.1) (maxL := y.2.2.1) (ret := y.2.2.2.1) (Ts := []) ⟨hx, hb, hmx, hown, fun w h => by cases h⟩ hM ⟨⟨rfl, rfl, Nat.le_trans hf.1 h1, Nat.le_trans hf.2 h2, hw, List.mem_cons_self, hcode, hini, hy.2.2.2.1, hlen, hts _ hlk rfl⟩, hts _ hst.1 rfl, hts _ hst.2 rfl⟩ hp rfl (by rw [List.length_map]; exact hn) hl.1 rfl (lv_room hcat) hdg hc) hS kk
  · refine am_back hK (va_runVN (bytes := y.2.1) (maxL := y.2.2.1) (ret := y.2.2.2.1) (host := host) (Ts := []) ⟨hx, hb, hmx, hown, fun w h => by cases h⟩ hM ⟨⟨⟨rfl, rfl, Nat.le_trans hf.1 h1, Nat.le_trans hf.2 h2, hw, List.mem_cons_self⟩, hcode, hini, hy.2.2.2.1, hlen, hts _ hlk rfl⟩, hts _ hst.1 rfl, hts _ hst.2 rfl⟩ hp rfl (by rw [List.length_map]; exact hn) hl.1 rfl (lv_room hcat) hdg hc) hS kk
end AC
end
section
/-! the judgement's rows, one an instruction -/
def am_ck {α : Type} (b : Bool) (o : Option α) : Option α := match b with
  | true => o
  | false => none
theorem am_ck_t {α : Type} {b : Bool} {o : Option α} (h : b = true) : am_ck b o = o := by rw [h]; rfl
def am_ix (j : Int32) (n : Nat) : Bool := decide (0 ≤ j) && Nat.blt j.toNatClampNeg n
theorem am_ix_in {j : Int32} {n : Nat} (h : am_ix j n = true) : vp_in j n := by
  unfold am_ix at h
  simp only [Bool.and_eq_true, decide_eq_true_eq, Nat.blt_eq] at h
  intro q
  rcases q with q | q
  · exact absurd h.1 (Int32.not_le.mpr q)
  · omega
theorem am_ix_nI {i n : Nat} (h : i < n) (hn : n < 2 ^ 31) : am_ix (nI i) n = true := by
  unfold am_ix
  simp only [Bool.and_eq_true, decide_eq_true_eq, Nat.blt_eq]
  exact ⟨nI_pos' (by omega), by rw [nI_clamp (by omega)]; exact h⟩
/-- results: an int and M, an int alone, M alone, a long, a cell -/
def am_r {α : Type} (φ : α → Option Value × am_M) (f : Option α) : Option (Option Value × am_M) := f.map φ
abbrev am_fI : Int32 × am_M → Option Value × am_M := fun q => (some (.int q.1), q.2)
abbrev am_fP (M : am_M) : Int32 → Option Value × am_M := fun r => (some (.int r), M)
abbrev am_fV : am_M → Option Value × am_M := fun M => (none, M)
abbrev am_fL : Int64 × am_M → Option Value × am_M := fun q => (some (.long q.1), q.2)
abbrev am_fN (M : am_M) : Int64 → Option Value × am_M := fun r => (some (.long r), M)
abbrev am_fR : Nat × am_M → Option Value × am_M := fun q => (some (.ref q.1), q.2)
section AZ
variable {l : Launch} {g : am_G} {d : am_Y} {pc : Nat} {LS : am_L} {st : List Value} {M : am_M} {o : Option (Option Value × am_M)} {α : Type} {φ : α → Option Value × am_M} {f fT fF : Option α}
theorem e_ck {b : Bool} (k : b = true → am_E l g d pc LS st M (am_r φ f)) : am_E l g d pc LS st M (am_r φ (am_ck b f)) := by
  cases b with
  | true => exact k rfl
  | false => exact am_none

theorem e_iconst {n : Int} {v : Int32} (hdg : decode d.2.1 pc = .ok (.iconst n, 1)) (hv : Int32.ofInt n = v) (k : am_E l g d (pc + 1) LS (.int v :: st) M o) : am_E l g d pc LS (st) M o :=
  am_goS (fun p e R s m args below meth c hX H locs cells slots ls Q hl hR hS kk => lv_iconst hX.1 hX.2.1 hdg hv (kk ls hl)) k
theorem e_bipush {n : Int} {v : Int32} (hdg : decode d.2.1 pc = .ok (.bipush n, 2)) (hv : (Int8.ofInt n).toInt32 = v) (k : am_E l g d (pc + 2) LS (.int v :: st) M o) : am_E l g d pc LS (st) M o :=
  am_goS (fun p e R s m args below meth c hX H locs cells slots ls Q hl hR hS kk => lv_bipush hX.1 hX.2.1 hdg hv (kk ls hl)) k
theorem e_sipush {n : Int} {v : Int32} (hdg : decode d.2.1 pc = .ok (.sipush n, 3)) (hv : (Int16.ofInt n).toInt32 = v) (k : am_E l g d (pc + 3) LS (.int v :: st) M o) : am_E l g d pc LS (st) M o :=
  am_goS (fun p e R s m args below meth c hX H locs cells slots ls Q hl hR hS kk => lv_sipush hX.1 hX.2.1 hdg hv (kk ls hl)) k
theorem e_lconst {n : Fin 2} {v : Int64} (hdg : decode d.2.1 pc = .ok (.lconst n, 1)) (hv : Int64.ofNat (n : Nat) = v) (k : am_E l g d (pc + 1) LS (.long v :: st) M o) : am_E l g d pc LS (st) M o :=
  am_goS (fun p e R s m args below meth c hX H locs cells slots ls Q hl hR hS kk => lv_lconst hX.1 hX.2.1 hdg hv (kk ls hl)) k
theorem e_ldc {idx : Nat} {v : Int32} (hdg : decode d.2.1 pc = .ok (.ldc idx, 2)) (hw : Cond.constant d.1.cls idx v ∈ lw_tbl) (k : am_E l g d (pc + 2) LS (.int v :: st) M o) : am_E l g d pc LS (st) M o :=
  am_goS (fun p e R s m args below meth c hX H locs cells slots ls Q hl hR hS kk => lv_ldc hX.1 hX.2.1 hX.2.2.2.1 (hX.2.2.2.2.2.1 _ hw rfl) hdg (kk ls hl)) k
theorem e_ldcw {idx : Nat} {v : Int32} (hdg : decode d.2.1 pc = .ok (.ldc_w idx, 3)) (hw : Cond.constant d.1.cls idx v ∈ lw_tbl) (k : am_E l g d (pc + 3) LS (.int v :: st) M o) : am_E l g d pc LS (st) M o :=
  am_goS (fun p e R s m args below meth c hX H locs cells slots ls Q hl hR hS kk => lv_ldcw hX.1 hX.2.1 hX.2.2.2.1 (hX.2.2.2.2.2.1 _ hw rfl) hdg (kk ls hl)) k
theorem e_ldc2 {idx : Nat} {v : Int64} (hdg : decode d.2.1 pc = .ok (.ldc2_w idx, 3)) (hw : Cond.constantLong d.1.cls idx v ∈ lw_tbl) (k : am_E l g d (pc + 3) LS (.long v :: st) M o) : am_E l g d pc LS (st) M o :=
  am_goS (fun p e R s m args below meth c hX H locs cells slots ls Q hl hR hS kk => lv_ldc2 hX.1 hX.2.1 hX.2.2.2.1 (hX.2.2.2.2.2.1 _ hw rfl) hdg (kk ls hl)) k
theorem e_iload_n {n : Fin 4} {x : Int32} (hdg : decode d.2.1 pc = .ok (.iload_n n, 1)) (hv : am_get LS n = some (.int x)) (k : am_E l g d (pc + 1) LS (.int x :: st) M o) : am_E l g d pc LS (st) M o :=
  am_goS (fun p e R s m args below meth c hX H locs cells slots ls Q hl hR hS kk => lv_iload_n hX.1 hX.2.1 hdg rfl (am_ll_at hl hv) (kk ls hl)) k
theorem e_iload {n : Nat} {x : Int32} (hdg : decode d.2.1 pc = .ok (.iload n, 2)) (hv : am_get LS n = some (.int x)) (k : am_E l g d (pc + 2) LS (.int x :: st) M o) : am_E l g d pc LS (st) M o :=
  am_goS (fun p e R s m args below meth c hX H locs cells slots ls Q hl hR hS kk => lv_iload hX.1 hX.2.1 hdg (am_ll_at hl hv) (kk ls hl)) k
theorem e_lload_n {n : Fin 4} {x : Int64} (hdg : decode d.2.1 pc = .ok (.lload_n n, 1)) (hv : am_get LS n = some (.long x)) (k : am_E l g d (pc + 1) LS (.long x :: st) M o) : am_E l g d pc LS (st) M o :=
  am_goS (fun p e R s m args below meth c hX H locs cells slots ls Q hl hR hS kk => lv_lload_n hX.1 hX.2.1 hdg rfl (am_ll_at hl hv) (kk ls hl)) k
theorem e_lload {n : Nat} {x : Int64} (hdg : decode d.2.1 pc = .ok (.lload n, 2)) (hv : am_get LS n = some (.long x)) (k : am_E l g d (pc + 2) LS (.long x :: st) M o) : am_E l g d pc LS (st) M o :=
  am_goS (fun p e R s m args below meth c hX H locs cells slots ls Q hl hR hS kk => lv_lload hX.1 hX.2.1 hdg (am_ll_at hl hv) (kk ls hl)) k
theorem e_aload_n {n : Fin 4} {x : Nat} (hdg : decode d.2.1 pc = .ok (.aload_n n, 1)) (hv : am_get LS n = some (.ref x)) (k : am_E l g d (pc + 1) LS (.ref x :: st) M o) : am_E l g d pc LS (st) M o :=
  am_goS (fun p e R s m args below meth c hX H locs cells slots ls Q hl hR hS kk => lv_aload_n hX.1 hX.2.1 hdg rfl (am_ll_at hl hv) (kk ls hl)) k
theorem e_aload {n : Nat} {x : Nat} (hdg : decode d.2.1 pc = .ok (.aload n, 2)) (hv : am_get LS n = some (.ref x)) (k : am_E l g d (pc + 2) LS (.ref x :: st) M o) : am_E l g d pc LS (st) M o :=
  am_goS (fun p e R s m args below meth c hX H locs cells slots ls Q hl hR hS kk => lv_aload hX.1 hX.2.1 hdg (am_ll_at hl hv) (kk ls hl)) k
theorem e_iadd {x y : Int32} (hdg : decode d.2.1 pc = .ok (.iadd, 1)) (k : am_E l g d (pc + 1) LS (.int (x + y) :: st) M o) : am_E l g d pc LS (.int y :: .int x :: st) M o :=
  am_goS (fun p e R s m args below meth c hX H locs cells slots ls Q hl hR hS kk => lv_iadd hX.1 hX.2.1 hdg (kk ls hl)) k
theorem e_isub {x y : Int32} (hdg : decode d.2.1 pc = .ok (.isub, 1)) (k : am_E l g d (pc + 1) LS (.int (x - y) :: st) M o) : am_E l g d pc LS (.int y :: .int x :: st) M o :=
  am_goS (fun p e R s m args below meth c hX H locs cells slots ls Q hl hR hS kk => lv_isub hX.1 hX.2.1 hdg (kk ls hl)) k
theorem e_imul {x y : Int32} (hdg : decode d.2.1 pc = .ok (.imul, 1)) (k : am_E l g d (pc + 1) LS (.int (x * y) :: st) M o) : am_E l g d pc LS (.int y :: .int x :: st) M o :=
  am_goS (fun p e R s m args below meth c hX H locs cells slots ls Q hl hR hS kk => lv_imul hX.1 hX.2.1 hdg (kk ls hl)) k
theorem e_iand {x y : Int32} (hdg : decode d.2.1 pc = .ok (.iand, 1)) (k : am_E l g d (pc + 1) LS (.int (x &&& y) :: st) M o) : am_E l g d pc LS (.int y :: .int x :: st) M o :=
  am_goS (fun p e R s m args below meth c hX H locs cells slots ls Q hl hR hS kk => lv_iand hX.1 hX.2.1 hdg (kk ls hl)) k
theorem e_ior {x y : Int32} (hdg : decode d.2.1 pc = .ok (.ior, 1)) (k : am_E l g d (pc + 1) LS (.int (x ||| y) :: st) M o) : am_E l g d pc LS (.int y :: .int x :: st) M o :=
  am_goS (fun p e R s m args below meth c hX H locs cells slots ls Q hl hR hS kk => lv_ior hX.1 hX.2.1 hdg (kk ls hl)) k
theorem e_ixor {x y : Int32} (hdg : decode d.2.1 pc = .ok (.ixor, 1)) (k : am_E l g d (pc + 1) LS (.int (x ^^^ y) :: st) M o) : am_E l g d pc LS (.int y :: .int x :: st) M o :=
  am_goS (fun p e R s m args below meth c hX H locs cells slots ls Q hl hR hS kk => lv_ixor hX.1 hX.2.1 hdg (kk ls hl)) k
theorem e_ineg {x : Int32} (hdg : decode d.2.1 pc = .ok (.ineg, 1)) (k : am_E l g d (pc + 1) LS (.int (-x) :: st) M o) : am_E l g d pc LS (.int x :: st) M o :=
  am_goS (fun p e R s m args below meth c hX H locs cells slots ls Q hl hR hS kk => lv_ineg hX.1 hX.2.1 hdg (kk ls hl)) k
theorem e_ishl {x y : Int32} (hdg : decode d.2.1 pc = .ok (.ishl, 1)) (k : am_E l g d (pc + 1) LS (.int (x <<< (y &&& 31)) :: st) M o) : am_E l g d pc LS (.int y :: .int x :: st) M o :=
  am_goS (fun p e R s m args below meth c hX H locs cells slots ls Q hl hR hS kk => lv_ishl hX.1 hX.2.1 hdg (kk ls hl)) k
theorem e_ishr {x y : Int32} (hdg : decode d.2.1 pc = .ok (.ishr, 1)) (k : am_E l g d (pc + 1) LS (.int (x >>> (y &&& 31)) :: st) M o) : am_E l g d pc LS (.int y :: .int x :: st) M o :=
  am_goS (fun p e R s m args below meth c hX H locs cells slots ls Q hl hR hS kk => lv_ishr hX.1 hX.2.1 hdg (kk ls hl)) k
theorem e_iushr {x y : Int32} (hdg : decode d.2.1 pc = .ok (.iushr, 1)) (k : am_E l g d (pc + 1) LS (.int ((x.toUInt32 >>> (y.toUInt32 &&& Int32.toUInt32 31)).toInt32) :: st) M o) : am_E l g d pc LS (.int y :: .int x :: st) M o :=
  am_goS (fun p e R s m args below meth c hX H locs cells slots ls Q hl hR hS kk => lv_iushr hX.1 hX.2.1 hdg rfl (kk ls hl)) k
theorem e_ladd {x y : Int64} (hdg : decode d.2.1 pc = .ok (.ladd, 1)) (k : am_E l g d (pc + 1) LS (.long (x + y) :: st) M o) : am_E l g d pc LS (.long y :: .long x :: st) M o :=
  am_goS (fun p e R s m args below meth c hX H locs cells slots ls Q hl hR hS kk => lv_ladd hX.1 hX.2.1 hdg (kk ls hl)) k
theorem e_lmul {x y : Int64} (hdg : decode d.2.1 pc = .ok (.lmul, 1)) (k : am_E l g d (pc + 1) LS (.long (x * y) :: st) M o) : am_E l g d pc LS (.long y :: .long x :: st) M o :=
  am_goS (fun p e R s m args below meth c hX H locs cells slots ls Q hl hR hS kk => lv_lmul hX.1 hX.2.1 hdg (kk ls hl)) k
theorem e_i2l {x : Int32} (hdg : decode d.2.1 pc = .ok (.i2l, 1)) (k : am_E l g d (pc + 1) LS (.long x.toInt64 :: st) M o) : am_E l g d pc LS (.int x :: st) M o :=
  am_goS (fun p e R s m args below meth c hX H locs cells slots ls Q hl hR hS kk => lv_i2l hX.1 hX.2.1 hdg rfl (kk ls hl)) k
theorem e_l2i {x : Int64} (hdg : decode d.2.1 pc = .ok (.l2i, 1)) (k : am_E l g d (pc + 1) LS (.int x.toInt32 :: st) M o) : am_E l g d pc LS (.long x :: st) M o :=
  am_goS (fun p e R s m args below meth c hX H locs cells slots ls Q hl hR hS kk => lv_l2i hX.1 hX.2.1 hdg rfl (kk ls hl)) k
theorem e_i2b {x : Int32} (hdg : decode d.2.1 pc = .ok (.i2b, 1)) (k : am_E l g d (pc + 1) LS (.int x.toInt8.toInt32 :: st) M o) : am_E l g d pc LS (.int x :: st) M o :=
  am_goS (fun p e R s m args below meth c hX H locs cells slots ls Q hl hR hS kk => lv_i2b hX.1 hX.2.1 hdg rfl (kk ls hl)) k
theorem e_lcmp {x y : Int64} (hdg : decode d.2.1 pc = .ok (.lcmp, 1)) (k : am_E l g d (pc + 1) LS (.int (lg_cmp x y) :: st) M o) : am_E l g d pc LS (.long y :: .long x :: st) M o :=
  am_goS (fun p e R s m args below meth c hX H locs cells slots ls Q hl hR hS kk => W.lcmp hX.1 hX.2.1 hdg (kk ls hl)) k
theorem e_dup {a : Value} (hdg : decode d.2.1 pc = .ok (.dup, 1)) (hc : a.category = 1) (k : am_E l g d (pc + 1) LS (a :: a :: st) M o) : am_E l g d pc LS (a :: st) M o :=
  am_goS (fun p e R s m args below meth c hX H locs cells slots ls Q hl hR hS kk => lv_dup hX.1 hX.2.1 hdg (by rw [am_tr_cat]; exact hc) (kk ls hl)) k
theorem e_dup2 {a b : Value} (hdg : decode d.2.1 pc = .ok (.dup2, 1)) (hc : a.category = 1) (hc2 : b.category = 1) (k : am_E l g d (pc + 1) LS (a :: b :: a :: b :: st) M o) : am_E l g d pc LS (a :: b :: st) M o :=
  am_goS (fun p e R s m args below meth c hX H locs cells slots ls Q hl hR hS kk => lv_dup2_11 hX.1 hX.2.1 hdg (by rw [am_tr_cat]; exact hc) (by rw [am_tr_cat]; exact hc2) (kk ls hl)) k
theorem e_idiv {x y : Int32} (hdg : decode d.2.1 pc = .ok (.idiv, 1)) (hne : ¬ y = 0) (k : am_E l g d (pc + 1) LS (.int (x / y) :: st) M o) : am_E l g d pc LS (.int y :: .int x :: st) M o :=
  am_goS (fun p e R s m args below meth c hX H locs cells slots ls Q hl hR hS kk => lv_idiv hX.1 hX.2.1 hdg hne (kk ls hl)) k
theorem e_irem {x y : Int32} (hdg : decode d.2.1 pc = .ok (.irem, 1)) (hne : ¬ y = 0) (k : am_E l g d (pc + 1) LS (.int (x - x / y * y) :: st) M o) : am_E l g d pc LS (.int y :: .int x :: st) M o :=
  am_goS (fun p e R s m args below meth c hX H locs cells slots ls Q hl hR hS kk => lv_irem hX.1 hX.2.1 hdg hne (kk ls hl)) k
theorem e_ldiv {x y : Int64} (hdg : decode d.2.1 pc = .ok (.ldiv, 1)) (hne : ¬ y = 0) (k : am_E l g d (pc + 1) LS (.long (x / y) :: st) M o) : am_E l g d pc LS (.long y :: .long x :: st) M o :=
  am_goS (fun p e R s m args below meth c hX H locs cells slots ls Q hl hR hS kk => lv_ldiv hX.1 hX.2.1 hdg hne (kk ls hl)) k
theorem e_lrem {x y : Int64} (hdg : decode d.2.1 pc = .ok (.lrem, 1)) (hne : ¬ y = 0) (k : am_E l g d (pc + 1) LS (.long (x - x / y * y) :: st) M o) : am_E l g d pc LS (.long y :: .long x :: st) M o :=
  am_goS (fun p e R s m args below meth c hX H locs cells slots ls Q hl hR hS kk => lv_lrem hX.1 hX.2.1 hdg hne (kk ls hl)) k
theorem e_istore_n {n : Fin 4} {x : Int32} {LS1 : am_L} (hdg : decode d.2.1 pc = .ok (.istore_n n, 1)) (hn : (n : Nat) < d.2.2.1) (hL : am_st1 LS n (.int x) = LS1) (k : am_E l g d (pc + 1) LS1 st M o) : am_E l g d pc LS (.int x :: st) M o :=
  am_goS (fun p e R s m args below meth c hX H locs cells slots ls Q hl hR hS kk => lv_istore_n hX.1 hX.2.1 hdg rfl hl hn rfl (fun ls' hl' => kk ls' (hL ▸ am_ll_sub hl' (am_st1_sub g LS n (.int x))))) k
theorem e_istore {n : Nat} {x : Int32} {LS1 : am_L} (hdg : decode d.2.1 pc = .ok (.istore n, 2)) (hn : (n : Nat) < d.2.2.1) (hL : am_st1 LS n (.int x) = LS1) (k : am_E l g d (pc + 2) LS1 st M o) : am_E l g d pc LS (.int x :: st) M o :=
  am_goS (fun p e R s m args below meth c hX H locs cells slots ls Q hl hR hS kk => lv_istore hX.1 hX.2.1 hdg hl hn rfl (fun ls' hl' => kk ls' (hL ▸ am_ll_sub hl' (am_st1_sub g LS n (.int x))))) k
theorem e_astore_n {n : Fin 4} {x : Nat} {LS1 : am_L} (hdg : decode d.2.1 pc = .ok (.astore_n n, 1)) (hn : (n : Nat) < d.2.2.1) (hL : am_st1 LS n (.ref x) = LS1) (k : am_E l g d (pc + 1) LS1 st M o) : am_E l g d pc LS (.ref x :: st) M o :=
  am_goS (fun p e R s m args below meth c hX H locs cells slots ls Q hl hR hS kk => lv_astore_n hX.1 hX.2.1 hdg rfl hl hn rfl (fun ls' hl' => kk ls' (hL ▸ am_ll_sub hl' (am_st1_sub g LS n (.ref x))))) k
theorem e_astore {n : Nat} {x : Nat} {LS1 : am_L} (hdg : decode d.2.1 pc = .ok (.astore n, 2)) (hn : (n : Nat) < d.2.2.1) (hL : am_st1 LS n (.ref x) = LS1) (k : am_E l g d (pc + 2) LS1 st M o) : am_E l g d pc LS (.ref x :: st) M o :=
  am_goS (fun p e R s m args below meth c hX H locs cells slots ls Q hl hR hS kk => lv_astore hX.1 hX.2.1 hdg hl hn rfl (fun ls' hl' => kk ls' (hL ▸ am_ll_sub hl' (am_st1_sub g LS n (.ref x))))) k
theorem e_lstore_n {n : Fin 4} {x : Int64} {LS1 : am_L} (hdg : decode d.2.1 pc = .ok (.lstore_n n, 1)) (hn : (n : Nat) + 1 < d.2.2.1) (hL : am_st2 LS n (.long x) = LS1) (k : am_E l g d (pc + 1) LS1 st M o) : am_E l g d pc LS (.long x :: st) M o :=
  am_goS (fun p e R s m args below meth c hX H locs cells slots ls Q hl hR hS kk => lv_lstore_n hX.1 hX.2.1 hdg rfl hl hn rfl (fun ls' hl' => kk ls' (hL ▸ am_ll_sub hl' (am_st2_sub g LS n (.long x))))) k
theorem e_lstore {n : Nat} {x : Int64} {LS1 : am_L} (hdg : decode d.2.1 pc = .ok (.lstore n, 2)) (hn : (n : Nat) + 1 < d.2.2.1) (hL : am_st2 LS n (.long x) = LS1) (k : am_E l g d (pc + 2) LS1 st M o) : am_E l g d pc LS (.long x :: st) M o :=
  am_goS (fun p e R s m args below meth c hX H locs cells slots ls Q hl hR hS kk => lv_lstore hX.1 hX.2.1 hdg hl hn rfl (fun ls' hl' => kk ls' (hL ▸ am_ll_sub hl' (am_st2_sub g LS n (.long x))))) k
theorem e_iinc {n : Nat} {i : Int} {x v : Int32} {LS1 : am_L} (hdg : decode d.2.1 pc = .ok (.iinc n i, 3)) (hv : am_get LS n = some (.int x)) (he : x + Int32.ofInt i = v) (hn : n < d.2.2.1) (hL : am_st1 LS n (.int v) = LS1) (k : am_E l g d (pc + 3) LS1 st M o) : am_E l g d pc LS st M o :=
  am_goS (fun p e R s m args below meth c hX H locs cells slots ls Q hl hR hS kk => by
    have hm : (n, Value.int x) ∈ am_lv g 0 LS := (am_lv_mem g LS 0 _).mpr ⟨n, .int x, by simp [am_tr], hv⟩
    obtain ⟨q, hq⟩ := List.getElem?_of_mem hm
    exact lv_iinc hX.1 hX.2.1 hdg hl hq he hn rfl (fun ls' hl' => kk ls' (hL ▸ am_ll_sub hl' (am_st1_sub g LS n (.int v))))) k
theorem am_br {c : Prop} {pt pf : Nat} (D : Decidable c) {st' : List Value} (h : ∀ (p : Program) (e : Env) (R : Room) (s : State) (m : MethodId) (args : Array Value) (below : List Frame) (meth : Method) (c0 : Code), am_X g d p s m args meth c0 →
    ∀ (H : Heap) (locs : List Loc) (cells slots : Nat) (ls : Array Slot) (Q : State → Prop),
    (c → W p l e R s m args below meth c0 H locs cells slots Q (F0 m pt ls (st'.map (am_tr g)))) → (¬ c → W p l e R s m args below meth c0 H locs cells slots Q (F0 m pf ls (st'.map (am_tr g)))) → W p l e R s m args below meth c0 H locs cells slots Q (F0 m pc ls (st.map (am_tr g))))
    (kt : am_E l g d pt LS st' M (am_r φ fT)) (kf : am_E l g d pf LS st' M (am_r φ fF)) : am_E l g d pc LS st M (am_r φ (if c then fT else fF)) := by
  by_cases hc : c
  · rw [if_pos hc]
    exact am_goS (fun p e R s m args below meth c0 hX H locs cells slots ls Q hl hR hS kk => h p e R s m args below meth c0 hX H locs cells slots ls Q (fun _ => kk ls hl) (fun q => absurd hc q)) kt
  · rw [if_neg hc]
    exact am_goS (fun p e R s m args below meth c0 hX H locs cells slots ls Q hl hR hS kk => h p e R s m args below meth c0 hX H locs cells slots ls Q (fun q => absurd q hc) (fun _ => kk ls hl)) kf
theorem e_if_eq {x : Int32} {off : Int} {tgt : Nat} (hdg : decode d.2.1 pc = .ok (.ifCond .eq off, 3)) (ht : (pc : Int) + off = (tgt : Int)) (kt : am_E l g d tgt LS st M (am_r φ fT)) (kf : am_E l g d (pc + 3) LS st M (am_r φ fF)) : am_E l g d pc LS (.int x :: st) M (am_r φ (if x = 0 then fT else fF)) :=
  am_br _ (fun p e R s m args below meth c0 hX H locs cells slots ls Q kt kf => lv_if_eq hX.1 hX.2.1 hdg ht kt kf) kt kf
theorem e_if2_eq {x y : Int32} {off : Int} {tgt : Nat} (hdg : decode d.2.1 pc = .ok (.if_icmp .eq off, 3)) (ht : (pc : Int) + off = (tgt : Int)) (kt : am_E l g d tgt LS st M (am_r φ fT)) (kf : am_E l g d (pc + 3) LS st M (am_r φ fF)) : am_E l g d pc LS (.int y :: .int x :: st) M (am_r φ (if x = y then fT else fF)) :=
  am_br _ (fun p e R s m args below meth c0 hX H locs cells slots ls Q kt kf => lv_icmp_eq hX.1 hX.2.1 hdg ht kt kf) kt kf
theorem e_if_ne {x : Int32} {off : Int} {tgt : Nat} (hdg : decode d.2.1 pc = .ok (.ifCond .ne off, 3)) (ht : (pc : Int) + off = (tgt : Int)) (kt : am_E l g d tgt LS st M (am_r φ fT)) (kf : am_E l g d (pc + 3) LS st M (am_r φ fF)) : am_E l g d pc LS (.int x :: st) M (am_r φ (if ¬ x = 0 then fT else fF)) :=
  am_br _ (fun p e R s m args below meth c0 hX H locs cells slots ls Q kt kf => lv_if_ne hX.1 hX.2.1 hdg ht kt (fun q => kf (fun z => z q))) kt kf
theorem e_if2_ne {x y : Int32} {off : Int} {tgt : Nat} (hdg : decode d.2.1 pc = .ok (.if_icmp .ne off, 3)) (ht : (pc : Int) + off = (tgt : Int)) (kt : am_E l g d tgt LS st M (am_r φ fT)) (kf : am_E l g d (pc + 3) LS st M (am_r φ fF)) : am_E l g d pc LS (.int y :: .int x :: st) M (am_r φ (if ¬ x = y then fT else fF)) :=
  am_br _ (fun p e R s m args below meth c0 hX H locs cells slots ls Q kt kf => lv_icmp_ne hX.1 hX.2.1 hdg ht kt (fun q => kf (fun z => z q))) kt kf
theorem e_if_lt {x : Int32} {off : Int} {tgt : Nat} (hdg : decode d.2.1 pc = .ok (.ifCond .lt off, 3)) (ht : (pc : Int) + off = (tgt : Int)) (kt : am_E l g d tgt LS st M (am_r φ fT)) (kf : am_E l g d (pc + 3) LS st M (am_r φ fF)) : am_E l g d pc LS (.int x :: st) M (am_r φ (if x < 0 then fT else fF)) :=
  am_br _ (fun p e R s m args below meth c0 hX H locs cells slots ls Q kt kf => lv_if_lt hX.1 hX.2.1 hdg ht kt kf) kt kf
theorem e_if2_lt {x y : Int32} {off : Int} {tgt : Nat} (hdg : decode d.2.1 pc = .ok (.if_icmp .lt off, 3)) (ht : (pc : Int) + off = (tgt : Int)) (kt : am_E l g d tgt LS st M (am_r φ fT)) (kf : am_E l g d (pc + 3) LS st M (am_r φ fF)) : am_E l g d pc LS (.int y :: .int x :: st) M (am_r φ (if x < y then fT else fF)) :=
  am_br _ (fun p e R s m args below meth c0 hX H locs cells slots ls Q kt kf => lv_icmp_lt hX.1 hX.2.1 hdg ht kt kf) kt kf
theorem e_if_ge {x : Int32} {off : Int} {tgt : Nat} (hdg : decode d.2.1 pc = .ok (.ifCond .ge off, 3)) (ht : (pc : Int) + off = (tgt : Int)) (kt : am_E l g d tgt LS st M (am_r φ fT)) (kf : am_E l g d (pc + 3) LS st M (am_r φ fF)) : am_E l g d pc LS (.int x :: st) M (am_r φ (if 0 ≤ x then fT else fF)) :=
  am_br _ (fun p e R s m args below meth c0 hX H locs cells slots ls Q kt kf => lv_if_ge hX.1 hX.2.1 hdg ht kt kf) kt kf
theorem e_if2_ge {x y : Int32} {off : Int} {tgt : Nat} (hdg : decode d.2.1 pc = .ok (.if_icmp .ge off, 3)) (ht : (pc : Int) + off = (tgt : Int)) (kt : am_E l g d tgt LS st M (am_r φ fT)) (kf : am_E l g d (pc + 3) LS st M (am_r φ fF)) : am_E l g d pc LS (.int y :: .int x :: st) M (am_r φ (if y ≤ x then fT else fF)) :=
  am_br _ (fun p e R s m args below meth c0 hX H locs cells slots ls Q kt kf => lv_icmp_ge hX.1 hX.2.1 hdg ht kt kf) kt kf
theorem e_if_gt {x : Int32} {off : Int} {tgt : Nat} (hdg : decode d.2.1 pc = .ok (.ifCond .gt off, 3)) (ht : (pc : Int) + off = (tgt : Int)) (kt : am_E l g d tgt LS st M (am_r φ fT)) (kf : am_E l g d (pc + 3) LS st M (am_r φ fF)) : am_E l g d pc LS (.int x :: st) M (am_r φ (if 0 < x then fT else fF)) :=
  am_br _ (fun p e R s m args below meth c0 hX H locs cells slots ls Q kt kf => lv_if_gt hX.1 hX.2.1 hdg ht kt kf) kt kf
theorem e_if2_gt {x y : Int32} {off : Int} {tgt : Nat} (hdg : decode d.2.1 pc = .ok (.if_icmp .gt off, 3)) (ht : (pc : Int) + off = (tgt : Int)) (kt : am_E l g d tgt LS st M (am_r φ fT)) (kf : am_E l g d (pc + 3) LS st M (am_r φ fF)) : am_E l g d pc LS (.int y :: .int x :: st) M (am_r φ (if y < x then fT else fF)) :=
  am_br _ (fun p e R s m args below meth c0 hX H locs cells slots ls Q kt kf => lv_icmp_gt hX.1 hX.2.1 hdg ht kt kf) kt kf
theorem e_if_le {x : Int32} {off : Int} {tgt : Nat} (hdg : decode d.2.1 pc = .ok (.ifCond .le off, 3)) (ht : (pc : Int) + off = (tgt : Int)) (kt : am_E l g d tgt LS st M (am_r φ fT)) (kf : am_E l g d (pc + 3) LS st M (am_r φ fF)) : am_E l g d pc LS (.int x :: st) M (am_r φ (if x ≤ 0 then fT else fF)) :=
  am_br _ (fun p e R s m args below meth c0 hX H locs cells slots ls Q kt kf => lv_if_le hX.1 hX.2.1 hdg ht kt kf) kt kf
theorem e_if2_le {x y : Int32} {off : Int} {tgt : Nat} (hdg : decode d.2.1 pc = .ok (.if_icmp .le off, 3)) (ht : (pc : Int) + off = (tgt : Int)) (kt : am_E l g d tgt LS st M (am_r φ fT)) (kf : am_E l g d (pc + 3) LS st M (am_r φ fF)) : am_E l g d pc LS (.int y :: .int x :: st) M (am_r φ (if x ≤ y then fT else fF)) :=
  am_br _ (fun p e R s m args below meth c0 hX H locs cells slots ls Q kt kf => lv_icmp_le hX.1 hX.2.1 hdg ht kt kf) kt kf
theorem e_goto {off : Int} {tgt : Nat} (hdg : decode d.2.1 pc = .ok (.goto off, 3)) (ht : (pc : Int) + off = (tgt : Int)) (k : am_E l g d tgt LS st M o) : am_E l g d pc LS st M o :=
  am_goS (fun p e R s m args below meth c hX H locs cells slots ls Q hl hR hS kk => lv_goto hX.1 hX.2.1 hdg ht (kk ls hl)) k
theorem e_ifnull {off : Int} {x : Nat} (hdg : decode d.2.1 pc = .ok (.ifnull off, 3)) (k : am_E l g d (pc + 3) LS st M o) : am_E l g d pc LS (.ref x :: st) M o :=
  am_goS (fun p e R s m args below meth c hX H locs cells slots ls Q hl hR hS kk => lv_ifnull hX.1 hX.2.1 hdg (kk ls hl)) k
theorem e_ifnonnull {off : Int} {x tgt : Nat} (hdg : decode d.2.1 pc = .ok (.ifnonnull off, 3)) (ht : (pc : Int) + off = (tgt : Int)) (k : am_E l g d tgt LS st M o) : am_E l g d pc LS (.ref x :: st) M o :=
  am_goS (fun p e R s m args below meth c hX H locs cells slots ls Q hl hR hS kk => lv_ifnonnull hX.1 hX.2.1 hdg ht (kk ls hl)) k
theorem e_ifnonnullN {off : Int} (hdg : decode d.2.1 pc = .ok (.ifnonnull off, 3)) (k : am_E l g d (pc + 3) LS st M o) : am_E l g d pc LS (.null :: st) M o :=
  am_goS (fun p e R s m args below meth c hX H locs cells slots ls Q hl hR hS kk => lv_ifnonnullN hX.1 hX.2.1 hdg (kk ls hl)) k
theorem e_tabIn {x : Int32} {df lo hi off : Int} {offs : Array Int} {len tgt : Nat} (hdg : decode d.2.1 pc = .ok (.tableswitch df lo hi offs, len)) (h1 : ¬ x.toInt < lo) (h2 : ¬ hi < x.toInt) (ho : offs[(x.toInt - lo).toNat]? = some off) (ht : (pc : Int) + off = (tgt : Int)) (k : am_E l g d tgt LS st M o) : am_E l g d pc LS (.int x :: st) M o :=
  am_goS (fun p e R s m args below meth c hX H locs cells slots ls Q hl hR hS kk => lv_tableIn hX.1 hX.2.1 hdg h1 h2 ho ht (kk ls hl)) k
theorem e_tabOut {x : Int32} {df lo hi : Int} {offs : Array Int} {len tgt : Nat} (hdg : decode d.2.1 pc = .ok (.tableswitch df lo hi offs, len)) (h : x.toInt < lo ∨ hi < x.toInt) (ht : (pc : Int) + df = (tgt : Int)) (k : am_E l g d tgt LS st M o) : am_E l g d pc LS (.int x :: st) M o :=
  am_goS (fun p e R s m args below meth c hX H locs cells slots ls Q hl hR hS kk => lv_tableOut hX.1 hX.2.1 hdg h ht (kk ls hl)) k
end AZ
end
section
/-! the judgement's rows: fields, arrays, calls, ends -/
def am_isR (ty : FieldType) : Bool := match ty with
  | .array _ => true
  | .object _ => true
  | _ => false
theorem am_fv_r {g : am_G} {M : am_M} {i f : Nat} {ty : FieldType} (h : am_isR ty = true) : am_fv g M i f ty = am_tr g (am_av (am_ro M i f)) := by
  rw [am_tr_av]
  cases ty <;> simp [am_isR] at h <;> rfl
def am_nf (k f : Nat) : Bool := match am_cl[k]? with
  | some r => !(r.2.1 f).2.2.2
  | none => false
theorem am_nf_of {k f : Nat} (h : am_nf k f = true) {P : vw_C → Prop} : ∀ r : vw_C, am_cl[k]? = some r → (r.2.1 f).2.2.2 = false ∨ P r := by
  intro r hr
  unfold am_nf at h
  rw [hr] at h
  exact Or.inl (by simpa using h)
theorem am_fvI {g : am_G} {M : am_M} {i f : Nat} {v : Int32} : ∀ f', f' ≠ f → ∀ ty, am_fv g (am_wI M i f v) i f' ty = am_fv g M i f' ty := by
  intro f' h ty
  have e : am_mu (am_wI M i f v) i f' = am_mu M i f' := by
    show (am_rw (am_mu M) i (upd (am_mu M i) f v) i) f' = _
    rw [am_rw_s]
    unfold upd
    rw [if_neg h]
  unfold am_fv
  rw [e]
  rfl
theorem am_fvL {g : am_G} {M : am_M} {i f : Nat} {v : Int64} : ∀ f', f' ≠ f → ∀ ty, am_fv g (am_wL M i f v) i f' ty = am_fv g M i f' ty := by
  intro f' h ty
  have e : am_lg (am_wL M i f v) i f' = am_lg M i f' := by
    show (am_rw (am_lg M) i (vp_updL (am_lg M i) f v) i) f' = _
    rw [am_rw_s]
    unfold vp_updL
    rw [if_neg h]
  unfold am_fv
  rw [e]
  rfl
theorem am_fvR {g : am_G} {M : am_M} {i f v : Nat} : ∀ f', f' ≠ f → ∀ ty, am_fv g (am_wR M i f v) i f' ty = am_fv g M i f' ty := by
  intro f' h ty
  have e : am_ro (am_wR M i f v) i f' = am_ro M i f' := by
    show (am_rw (am_ro M) i (va_up (am_ro M i) f v) i) f' = _
    rw [am_rw_s]
    unfold va_up
    rw [if_neg h]
  unfold am_fv
  rw [e]
  rfl
theorem am_mu_s {M : am_M} {i f : Nat} {v : Int32} : am_mu (am_wI M i f v) i f = v := by
  show (am_rw (am_mu M) i (upd (am_mu M i) f v) i) f = _
  rw [am_rw_s]
  unfold upd
  rw [if_pos rfl]
theorem am_ro_s {M : am_M} {i f v : Nat} : am_ro (am_wR M i f v) i f = v := by
  show (am_rw (am_ro M) i (va_up (am_ro M i) f v) i) f = _
  rw [am_rw_s]
  unfold va_up
  rw [if_pos rfl]
theorem am_lg_s {M : am_M} {i f : Nat} {v : Int64} : am_lg (am_wL M i f v) i f = v := by
  show (am_rw (am_lg M) i (vp_updL (am_lg M i) f v) i) f = _
  rw [am_rw_s]
  unfold vp_updL
  rw [if_pos rfl]
section AF
variable {l : Launch} {g : am_G} {d : am_Y} {pc : Nat} {LS : am_L} {st : List Value} {M : am_M} {o : Option (Option Value × am_M)} {α β : Type} {φ : α → Option Value × am_M} {ψ : β → Option Value × am_M} {f0 : Option α}
theorem e_getI {idx k f i : Nat} (hdg : decode d.2.1 pc = .ok (.getfield idx, 3)) (hl : am_Fl d.1.cls idx k f .int) (hk : k < 11) (hs : (am_sh M i).1 = k) (kk : am_E l g d (pc + 3) LS (.int (am_mu M i f) :: st) M o) : am_E l g d pc LS (.ref i :: st) M o :=
  am_goS (fun p e R s m args below meth c hX H locs cells slots ls Q hll hR hS kk => am_wget hX hR hl hk hs hdg (kk ls hll)) kk
theorem e_getZ {idx k f i : Nat} (hdg : decode d.2.1 pc = .ok (.getfield idx, 3)) (hl : am_Fl d.1.cls idx k f .boolean) (hk : k < 11) (hs : (am_sh M i).1 = k) (kk : am_E l g d (pc + 3) LS (.int (am_mu M i f) :: st) M o) : am_E l g d pc LS (.ref i :: st) M o :=
  am_goS (fun p e R s m args below meth c hX H locs cells slots ls Q hll hR hS kk => am_wget hX hR hl hk hs hdg (kk ls hll)) kk
theorem e_getL {idx k f i : Nat} (hdg : decode d.2.1 pc = .ok (.getfield idx, 3)) (hl : am_Fl d.1.cls idx k f .long) (hk : k < 11) (hs : (am_sh M i).1 = k) (kk : am_E l g d (pc + 3) LS (.long (am_lg M i f) :: st) M o) : am_E l g d pc LS (.ref i :: st) M o :=
  am_goS (fun p e R s m args below meth c hX H locs cells slots ls Q hll hR hS kk => am_wget hX hR hl hk hs hdg (kk ls hll)) kk
theorem e_getR {idx k f i r : Nat} {ty : FieldType} (hdg : decode d.2.1 pc = .ok (.getfield idx, 3)) (hl : am_Fl d.1.cls idx k f ty) (hty : am_isR ty = true) (hk : k < 11) (hs : (am_sh M i).1 = k) (hr : am_av (am_ro M i f) = .ref r) (kk : am_E l g d (pc + 3) LS (.ref r :: st) M o) : am_E l g d pc LS (.ref i :: st) M o :=
  am_goS (fun p e R s m args below meth c hX H locs cells slots ls Q hll hR hS kk => am_wget hX hR hl hk hs hdg (by rw [am_fv_r hty, hr]; exact kk ls hll)) kk
theorem e_getN {idx k f i : Nat} {ty : FieldType} (hdg : decode d.2.1 pc = .ok (.getfield idx, 3)) (hl : am_Fl d.1.cls idx k f ty) (hty : am_isR ty = true) (hk : k < 11) (hs : (am_sh M i).1 = k) (hr : am_ro M i f = 0) (kk : am_E l g d (pc + 3) LS (.null :: st) M o) : am_E l g d pc LS (.ref i :: st) M o :=
  am_goS (fun p e R s m args below meth c hX H locs cells slots ls Q hll hR hS kk => am_wget hX hR hl hk hs hdg (by rw [am_fv_r hty, hr]; exact kk ls hll)) kk
theorem e_putI {idx k f i : Nat} {v : Int32} (hdg : decode d.2.1 pc = .ok (.putfield idx, 3)) (hl : am_Fl d.1.cls idx k f .int) (hnf : am_nf k f = true) (hk : k < 11) (hs : (am_sh M i).1 = k) (kk : am_E l g d (pc + 3) LS st (am_wI M i f v) o) : am_E l g d pc LS (.int v :: .ref i :: st) M o :=
  am_goM (M1 := am_wI M i f v) rfl rfl (fun p e R s m args below meth c hX H locs cells slots ls Q hll hR hS h1 h2 kk => am_wput (M1 := am_wI M i f v) hX hR hS hl hk hs rfl rfl (am_nf_of hnf) rfl rfl (fun _ h => am_wI_en h) (fun q hq => am_rw_n (by have := am_ge hR (show (am_sh M i).1 < 15 by omega); omega)) (show Value.int _ = _ from congrArg Value.int am_mu_s) (fun f' h => am_fvI f' h _) hdg kk) kk
theorem e_putZ {idx k f i : Nat} {v : Int32} (hdg : decode d.2.1 pc = .ok (.putfield idx, 3)) (hl : am_Fl d.1.cls idx k f .boolean) (hnf : am_nf k f = true) (hk : k < 11) (hs : (am_sh M i).1 = k) (hz : v = 0 ∨ v = 1) (kk : am_E l g d (pc + 3) LS st (am_wI M i f v) o) : am_E l g d pc LS (.int v :: .ref i :: st) M o :=
  am_goM (M1 := am_wI M i f v) rfl rfl (fun p e R s m args below meth c hX H locs cells slots ls Q hll hR hS h1 h2 kk => am_wput (M1 := am_wI M i f v) hX hR hS hl hk hs (by rcases hz with rfl | rfl <;> rfl) (by rcases hz with rfl | rfl <;> rfl) (am_nf_of hnf) rfl rfl (fun _ h => am_wI_en h) (fun q hq => am_rw_n (by have := am_ge hR (show (am_sh M i).1 < 15 by omega); omega)) (show Value.int _ = _ from congrArg Value.int am_mu_s) (fun f' h => am_fvI f' h _) hdg kk) kk
theorem e_putL {idx k f i : Nat} {v : Int64} (hdg : decode d.2.1 pc = .ok (.putfield idx, 3)) (hl : am_Fl d.1.cls idx k f .long) (hnf : am_nf k f = true) (hk : k < 11) (hs : (am_sh M i).1 = k) (kk : am_E l g d (pc + 3) LS st (am_wL M i f v) o) : am_E l g d pc LS (.long v :: .ref i :: st) M o :=
  am_goM (M1 := am_wL M i f v) rfl rfl (fun p e R s m args below meth c hX H locs cells slots ls Q hll hR hS h1 h2 kk => am_wput (M1 := am_wL M i f v) hX hR hS hl hk hs rfl rfl (am_nf_of hnf) rfl rfl (fun _ h => am_wL_en h) (fun q hq => rfl) (show Value.long _ = _ from congrArg Value.long am_lg_s) (fun f' h => am_fvL f' h _) hdg kk) kk
theorem am_nar_r {ty : FieldType} (h : am_isR ty = true) (a : Nat) : narrow ty (.ref a) = .ref a ∧ fits ty (.ref a) = true := by
  cases ty <;> simp [am_isR] at h <;> exact ⟨rfl, rfl⟩
theorem e_putR {idx k f i v : Nat} {ty : FieldType} (hdg : decode d.2.1 pc = .ok (.putfield idx, 3)) (hl : am_Fl d.1.cls idx k f ty) (hty : am_isR ty = true) (hnf : am_nf k f = true) (hk : k < 11) (hs : (am_sh M i).1 = k) (hv : am_av v = .ref v) (kk : am_E l g d (pc + 3) LS st (am_wR M i f v) o) : am_E l g d pc LS (.ref v :: .ref i :: st) M o :=
  am_goM (M1 := am_wR M i f v) rfl rfl (fun p e R s m args below meth c hX H locs cells slots ls Q hll hR hS h1 h2 kk => am_wput (M1 := am_wR M i f v) hX hR hS hl hk hs (am_nar_r hty _).1 (am_nar_r hty _).2 (am_nf_of hnf) rfl rfl (fun _ h => am_wR_en h) (fun q hq => rfl) (by rw [am_fv_r hty, am_ro_s, hv]) (fun f' h => am_fvR f' h _) hdg kk) kk
/-- a final field, in its constructor -/
def am_fn (own : String) (idx k f : Nat) : Prop := ∀ r : vw_C, am_cl[k]? = some r → (r.2.1 f).2.2.2 = true ∧ (r.2.1 f).1 = own ∧ Cond.fieldLink own idx (r.2.1 f).1 (r.2.1 f).2.1 (r.2.1 f).2.2.1 ∈ lw_tbl
theorem e_putRF {idx k f i v : Nat} {ty : FieldType} (hdg : decode d.2.1 pc = .ok (.putfield idx, 3)) (hl : am_Fl d.1.cls idx k f ty) (hty : am_isR ty = true) (hnf : am_fn d.1.cls idx k f) (hini : d.1.name = "<init>") (hk : k < 11) (hs : (am_sh M i).1 = k) (hv : am_av v = .ref v) (kk : am_E l g d (pc + 3) LS st (am_wR M i f v) o) : am_E l g d pc LS (.ref v :: .ref i :: st) M o :=
  am_goM (M1 := am_wR M i f v) rfl rfl (fun p e R s m args below meth c hX H locs cells slots ls Q hll hR hS h1 h2 kk => am_wput (M1 := am_wR M i f v) hX hR hS hl hk hs (am_nar_r hty _).1 (am_nar_r hty _).2 (fun r hr => Or.inr ⟨(hnf r hr).1, hini, (hnf r hr).2.1, (hnf r hr).2.2⟩) rfl rfl (fun _ h => am_wR_en h) (fun q hq => rfl) (by rw [am_fv_r hty, am_ro_s, hv]) (fun f' h => am_fvR f' h _) hdg kk) kk
theorem e_iald {i n : Nat} {j : Int32} (hdg : decode d.2.1 pc = .ok (.iaload, 1)) (hs : am_sh M i = (12, n)) (kk : am_E l g d (pc + 1) LS (.int (am_mu M i j.toNatClampNeg) :: st) M (am_r φ f0)) : am_E l g d pc LS (.int j :: .ref i :: st) M (am_r φ (am_ck (am_ix j n) f0)) :=
  e_ck (fun h => am_goS (fun p e R s m args below meth c hX H locs cells slots ls Q hll hR hS kk => am_wiald hX hR hS (Or.inl (by rw [hs])) (by rw [hs]; exact am_ix_in h) hdg (kk ls hll)) kk)
theorem e_ialdC {i n jn : Nat} {j : Int32} (hdg : decode d.2.1 pc = .ok (.iaload, 1)) (hs : am_sh M i = (12, n)) (hj : am_ix j n = true) (hjn : j.toNatClampNeg = jn) (kk : am_E l g d (pc + 1) LS (.int (am_mu M i jn) :: st) M o) : am_E l g d pc LS (.int j :: .ref i :: st) M o :=
  am_goS (fun p e R s m args below meth c hX H locs cells slots ls Q hll hR hS kk => am_wiald hX hR hS (Or.inl (by rw [hs])) (by rw [hs]; exact am_ix_in hj) hdg (by rw [hjn]; exact kk ls hll)) kk
theorem e_iald16 {i n : Nat} {j : Int32} (hdg : decode d.2.1 pc = .ok (.iaload, 1)) (hs : am_sh M i = (16, n)) (kk : am_E l g d (pc + 1) LS (.int (am_mu M i j.toNatClampNeg) :: st) M (am_r φ f0)) : am_E l g d pc LS (.int j :: .ref i :: st) M (am_r φ (am_ck (am_ix j n) f0)) :=
  e_ck (fun h => am_goS (fun p e R s m args below meth c hX H locs cells slots ls Q hll hR hS kk => am_wiald hX hR hS (Or.inr (by rw [hs])) (by rw [hs]; exact am_ix_in h) hdg (kk ls hll)) kk)
theorem e_iast {i n : Nat} {j x : Int32} (hdg : decode d.2.1 pc = .ok (.iastore, 1)) (hs : am_sh M i = (12, n)) (kk : am_E l g d (pc + 1) LS st (am_wI M i j.toNatClampNeg x) (am_r φ f0)) : am_E l g d pc LS (.int x :: .int j :: .ref i :: st) M (am_r φ (am_ck (am_ix j n) f0)) :=
  e_ck (fun h => am_goM (M1 := am_wI M i j.toNatClampNeg x) rfl rfl (fun p e R s m args below meth c hX H locs cells slots ls Q hll hR hS h1 h2 kk => am_wiast hX hR hS (by rw [hs]) (by rw [hs]; exact am_ix_in h) hdg kk) kk)
theorem e_iastC {i n jn : Nat} {j x : Int32} (hdg : decode d.2.1 pc = .ok (.iastore, 1)) (hs : am_sh M i = (12, n)) (hj : am_ix j n = true) (hjn : j.toNatClampNeg = jn) (kk : am_E l g d (pc + 1) LS st (am_wI M i jn x) o) : am_E l g d pc LS (.int x :: .int j :: .ref i :: st) M o :=
  am_goM (M1 := am_wI M i jn x) rfl rfl (fun p e R s m args below meth c hX H locs cells slots ls Q hll hR hS h1 h2 kk => am_wiast hX hR hS (by rw [hs]) (by rw [hs]; exact am_ix_in hj) hdg (by rw [hjn]; exact kk)) kk
theorem e_bald {i n : Nat} {j : Int32} (hdg : decode d.2.1 pc = .ok (.baload, 1)) (hs : am_sh M i = (11, n) ∨ am_sh M i = (13, n)) (kk : am_E l g d (pc + 1) LS (.int (am_mu M i j.toNatClampNeg) :: st) M (am_r φ f0)) : am_E l g d pc LS (.int j :: .ref i :: st) M (am_r φ (am_ck (am_ix j n) f0)) :=
  e_ck (fun h => am_goS (fun p e R s m args below meth c hX H locs cells slots ls Q hll hR hS kk => am_wbald hX hR (by rcases hs with hs | hs <;> rw [hs] <;> simp) (by rcases hs with hs | hs <;> rw [hs] <;> exact am_ix_in h) hdg (kk ls hll)) kk)
theorem e_bast {i n : Nat} {j x : Int32} (hdg : decode d.2.1 pc = .ok (.bastore, 1)) (hs : am_sh M i = (11, n)) (kk : am_E l g d (pc + 1) LS st (am_wI M i j.toNatClampNeg x.toInt8.toInt32) (am_r φ f0)) : am_E l g d pc LS (.int x :: .int j :: .ref i :: st) M (am_r φ (am_ck (am_ix j n) f0)) :=
  e_ck (fun h => am_goM (M1 := am_wI M i j.toNatClampNeg x.toInt8.toInt32) rfl rfl (fun p e R s m args below meth c hX H locs cells slots ls Q hll hR hS h1 h2 kk => am_wbast hX hR hS (by rw [hs]) (by rw [hs]; exact am_ix_in h) hdg kk) kk)
theorem e_zast {i n : Nat} {j x : Int32} (hdg : decode d.2.1 pc = .ok (.bastore, 1)) (hs : am_sh M i = (13, n)) (hz : x = 0 ∨ x = 1) (kk : am_E l g d (pc + 1) LS st (am_wI M i j.toNatClampNeg x) (am_r φ f0)) : am_E l g d pc LS (.int x :: .int j :: .ref i :: st) M (am_r φ (am_ck (am_ix j n) f0)) :=
  e_ck (fun h => am_goM (M1 := am_wI M i j.toNatClampNeg x) rfl rfl (fun p e R s m args below meth c hX H locs cells slots ls Q hll hR hS h1 h2 kk => am_wzast hX hR hS (by rw [hs]) (by rw [hs]; exact am_ix_in h) (by rcases hz with rfl | rfl <;> rfl) hdg kk) kk)
theorem e_cald {j : Int32} (hdg : decode d.2.1 pc = .ok (.caload, 1)) (kk : am_E l g d (pc + 1) LS (.int (am_mu M 2 j.toNatClampNeg) :: st) M (am_r φ f0)) : am_E l g d pc LS (.int j :: .ref 2 :: st) M (am_r φ (am_ck (am_ix j 6) f0)) :=
  e_ck (fun h => am_goS (fun p e R s m args below meth c hX H locs cells slots ls Q hll hR hS kk => am_wcald hX hR hS (am_ix_in h) hdg (kk ls hll)) kk)
/-- a cell out of an array of ROWS -/
theorem e_aald {i n : Nat} {j : Int32} (hdg : decode d.2.1 pc = .ok (.aaload, 1)) (hs : am_sh M i = (14, n)) (hr : am_ix j n = true → am_av (am_ro M i j.toNatClampNeg) = .ref (am_ro M i j.toNatClampNeg)) (kk : am_ix j n = true → am_E l g d (pc + 1) LS (.ref (am_ro M i j.toNatClampNeg) :: st) M (am_r φ f0)) : am_E l g d pc LS (.int j :: .ref i :: st) M (am_r φ (am_ck (am_ix j n) f0)) :=
  e_ck (fun h => am_goS (fun p e R s m args below meth c hX H locs cells slots ls Q hll hR hS kk => am_waald hX hR (by rw [hs]) (by rw [hs]; exact am_ix_in h) hdg (by rw [hr h]; exact kk ls hll)) (kk h))
theorem e_aast {i n v : Nat} {j : Int32} (hdg : decode d.2.1 pc = .ok (.aastore, 1)) (hs : am_sh M i = (14, n)) (hv : (am_sh M v).1 = 7) (kk : am_E l g d (pc + 1) LS st (am_wR M i j.toNatClampNeg v) (am_r φ f0)) : am_E l g d pc LS (.ref v :: .int j :: .ref i :: st) M (am_r φ (am_ck (am_ix j n) f0)) :=
  e_ck (fun h => am_goM (M1 := am_wR M i j.toNatClampNeg v) rfl rfl (fun p e R s m args below meth c hX H locs cells slots ls Q hll hR hS h1 h2 kk => am_waast hX hR hS (by rw [hs]) hv (by rw [hs]; exact am_ix_in h) hdg kk) kk)
theorem e_alen {i k n : Nat} {v : Int32} (hdg : decode d.2.1 pc = .ok (.arraylength, 1)) (hs : am_sh M i = (k, n)) (hk : 11 ≤ k ∧ k < 17) (hv : nI n = v) (kk : am_E l g d (pc + 1) LS (.int v :: st) M o) : am_E l g d pc LS (.ref i :: st) M o :=
  am_goS (fun p e R s m args below meth c hX H locs cells slots ls Q hll hR hS kk => am_walen hX hR hS (by rw [hs]; exact hk) hdg (by rw [hs, hv]; exact kk ls hll)) kk
theorem e_new {idx k : Nat} {r : vw_C} {M1 : am_M} (hdg : decode d.2.1 pc = .ok (.new idx, 3)) (hc : am_cl[k]? = some r) (hk : k < 11) (hw1 : Cond.classLink d.1.cls idx r.1 ∈ lw_tbl) (hw2 : Cond.instantiable r.1 r.2.2 ∈ lw_tbl) (hw3 : Cond.initialized r.1 ∈ lw_tbl) (hty : ∀ f, f < r.2.2 → am_tyok (am_ft k f) = true) (hM : am_mk M k r.2.2 = M1) (kk : am_E l g d (pc + 3) LS (.ref (am_nx M) :: st) M1 o) : am_E l g d pc LS st M o := by
  subst hM
  exact am_goA (fun p e R s m args below meth c hX H locs cells slots ls Q hll hR hS h1 h2 kk => am_wnew hX hR hS hc hk hw1 hw2 hw3 hty h1 h2 hdg kk) kk
theorem e_newa {at' : ArrayType} {k N : Nat} {n : Int32} {M1 : am_M} (hdg : decode d.2.1 pc = .ok (.newarray at', 2)) (hk : (k = 11 ∧ at' = .byte) ∨ (k = 12 ∧ at' = .int) ∨ (k = 13 ∧ at' = .boolean)) (hw : Cond.arrayClass (newarray.typeOf at') ∈ lw_tbl) (hn : ¬ n < 0) (hN : n.toNatClampNeg = N) (hn2 : N ≤ 100000) (hM : am_mk M k N = M1) (kk : am_E l g d (pc + 2) LS (.ref (am_nx M) :: st) M1 o) : am_E l g d pc LS (.int n :: st) M o := by
  subst hM; subst hN
  exact am_goA (fun p e R s m args below meth c hX H locs cells slots ls Q hll hR hS h1 h2 kk => am_wnewa hX hR hS hk hw hn hn2 h1 h2 hdg kk) kk
theorem e_anew {idx N : Nat} {n : Int32} {M1 : am_M} (hdg : decode d.2.1 pc = .ok (.anewarray idx, 3)) (hw1 : Cond.classLink d.1.cls idx "NoonJars$Row" ∈ lw_tbl) (hw2 : Cond.arrayOver (.object "NoonJars$Row") ∈ lw_tbl) (hn : ¬ n < 0) (hN : n.toNatClampNeg = N) (hn2 : N ≤ 100000) (hM : am_mk M 14 N = M1) (kk : am_E l g d (pc + 3) LS (.ref (am_nx M) :: st) M1 o) : am_E l g d pc LS (.int n :: st) M o := by
  subst hM; subst hN
  exact am_goA (fun p e R s m args below meth c hX H locs cells slots ls Q hll hR hS h1 h2 kk => am_wanew hX hR hS hw1 hw2 hn hn2 h1 h2 hdg kk) kk
theorem e_gets {idx k : Nat} (hdg : decode d.2.1 pc = .ok (.getstatic idx, 3)) (hk : (k = 2 ∧ Cond.fieldLink d.1.cls idx "NoonJars$Kinds" "LETTERS" "[C" ∈ lw_tbl) ∨ (k = 3 ∧ Cond.fieldLink d.1.cls idx "NoonJars$Pourings" "UNITS" "[I" ∈ lw_tbl)) (kk : am_E l g d (pc + 3) LS (.ref k :: st) M o) : am_E l g d pc LS st M o :=
  am_goS (fun p e R s m args below meth c hX H locs cells slots ls Q hll hR hS kk => am_wgets hX hS hk hdg (kk ls hll)) kk
def am_cp (sp dp n : Int32) (n0 n1 : Nat) : Bool := decide (0 ≤ sp) && (decide (0 ≤ dp) && (decide (0 ≤ n) && (Nat.ble (sp.toNatClampNeg + n.toNatClampNeg) n0 && Nat.ble (dp.toNatClampNeg + n.toNatClampNeg) n1)))
theorem e_copy {idx i0 i1 n0 n1 : Nat} {sp dp n : Int32} (hdg : decode d.2.1 pc = .ok (.invokestatic idx, 3)) (hw1 : Cond.methodLink d.1.cls idx arraycopyName ∈ lw_tbl) (hw2 : Cond.native arraycopyName ∈ lw_tbl) (hw3 : Cond.static arraycopyName ∈ lw_tbl) (hw4 : Cond.initialized "java/lang/System" ∈ lw_tbl) (hs0 : am_sh M i0 = (12, n0)) (hs1 : am_sh M i1 = (12, n1))
    (hfr : 1 ≤ d.2.2.2.2.1) (hlo : (st.map fun v => v.category).sum + (nativeFrameWords "java/lang/System" "arraycopy" 5 + 11) ≤ d.2.2.2.2.2)
    (kk : am_E l g d (pc + 3) LS st (am_wA M i1 (va_cpy (am_mu M i0) (am_mu M i1) sp.toNatClampNeg dp.toNatClampNeg n.toNatClampNeg)) (am_r φ f0)) : am_E l g d pc LS (.int n :: .int dp :: .ref i1 :: .int sp :: .ref i0 :: st) M (am_r φ (am_ck (am_cp sp dp n n0 n1) f0)) :=
  e_ck (fun h => by
    unfold am_cp at h
    simp only [Bool.and_eq_true, decide_eq_true_eq, Nat.ble_eq] at h
    obtain ⟨a1, a2, a3, a4, a5⟩ := h
    exact am_goM (M1 := am_wA M i1 (va_cpy (am_mu M i0) (am_mu M i1) sp.toNatClampNeg dp.toNatClampNeg n.toNatClampNeg)) rfl rfl (fun p e R s m args below meth c hX H locs cells slots ls Q hll hR hS h1 h2 kk => am_wcopy hX hR hS hw1 hw2 hw3 hw4 hll.1 (by rw [hs0]) (by rw [hs1]) (Int32.not_lt.mpr a1) (Int32.not_lt.mpr a2) (Int32.not_lt.mpr a3) (by rw [hs0]; exact a4) (by rw [hs1]; exact a5) (by omega) (by
      rw [List.map_map, show ((fun v => v.category) ∘ am_tr g) = (fun v : Value => v.category) from funext (fun v => am_tr_cat g v)]
      omega) hdg kk) kk)
theorem e_objInit {idx b : Nat} (hdg : decode d.2.1 pc = .ok (.invokespecial idx, 3)) (hw1 : Cond.methodLink d.1.cls idx Lib.objectInit ∈ lw_tbl) (hw2 : Cond.instanceMethod Lib.objectInit ∈ lw_tbl) (hw3 : Cond.code Lib.objectInit ⟨#[0xb1]⟩ 1 none ∈ lw_tbl) (hfr : 1 ≤ d.2.2.2.2.1) (hlo : (st.map fun v => v.category).sum + 12 ≤ d.2.2.2.2.2) (kk : am_E l g d (pc + 3) LS st M o) : am_E l g d pc LS (.ref b :: st) M o :=
  am_goM (M1 := M) rfl rfl (fun p e R s m args below meth c hX H locs cells slots ls Q hll hR hS h1 h2 kk => W.objInit hX.1 hX.2.1 hX.2.2.2.1 (hX.2.2.2.2.2.1 _ hw1 rfl) (hX.2.2.2.2.2.1 _ hw2 rfl) (hX.2.2.2.2.2.1 _ hw3 rfl) rfl (by show ls.size = c.maxLocals; rw [hll.1, hX.2.2.1]) (rest := st.map (am_tr g)) rfl hdg (by omega) (by
    show 2 * 0 + _ + 12 ≤ _
    rw [List.map_map, show ((fun v => v.category) ∘ am_tr g) = (fun v : Value => v.category) from funext (fun v => am_tr_cat g v)]
    omega) (kk H locs hR hS)) kk
/-! calls -/
theorem am_goC {pc' : Nat} {st' : List Value} {M1 : am_M} (hn : am_nx M ≤ am_nx M1 ∧ am_sl M ≤ am_sl M1) (h : ∀ (p : Program) (e : Env) (R : Room) (s : State) (m : MethodId) (args : Array Value) (below : List Frame) (meth : Method) (c : Code), am_X g d p s m args meth c →
    ∀ (H : Heap) (locs : List Loc) (cells slots : Nat) (ls : Array Slot) (Q : State → Prop), am_ll g ls d.2.2.1 LS → am_R g M H → va_S (am_A g) s.heap H locs → d.2.2.2.2.1 ≤ R.frames → d.2.2.2.2.2 ≤ R.locals → cells + (am_nx M1 - am_nx M) ≤ R.cells → slots + (am_sl M1 - am_sl M) ≤ R.slots →
    (∀ (H1 : Heap) (locs1 : List Loc), am_R g M1 H1 → va_S (am_A g) s.heap H1 locs1 → W p l e R s m args below meth c H1 locs1 (cells + (am_nx M1 - am_nx M)) (slots + (am_sl M1 - am_sl M)) Q (F0 m pc' ls (st'.map (am_tr g)))) → W p l e R s m args below meth c H locs cells slots Q (F0 m pc ls (st.map (am_tr g))))
    (k : am_E l g d pc' LS st' M1 o) : am_E l g d pc LS st M o := by
  intro v M' ho
  obtain ⟨hm, hw⟩ := k v M' ho
  refine ⟨by omega, fun p e R s m args below meth c hX H locs cells slots ls Q hl hR hS h1 h2 h3 h4 hk => h p e R s m args below meth c hX H locs cells slots ls Q hl hR hS h1 h2 (by omega) (by omega) (fun H1 locs1 hR1 hS1 => hw p e R s m args below meth c hX H1 locs1 _ _ ls Q hl hR1 hS1 h1 h2 (by omega) (by omega) (fun H' locs' ls' pc2 a1 a2 a3 => ?_))⟩
  have := hk H' locs' ls' pc2 a1 a2 a3
  rw [show cells + (am_nx M1 - am_nx M) + (am_nx M' - am_nx M1) = cells + (am_nx M' - am_nx M) by omega, show slots + (am_sl M1 - am_sl M) + (am_sl M' - am_sl M1) = slots + (am_sl M' - am_sl M) by omega]
  exact this
theorem am_catm (g : am_G) (st : List Value) : ((st.map (am_tr g)).map fun v => v.category).sum = (st.map fun v => v.category).sum := by
  rw [List.map_map, show ((fun v => v.category) ∘ am_tr g) = (fun v : Value => v.category) from funext (fun v => am_tr_cat g v)]
theorem am_vst (g : am_G) (v : Option Value) (st : List Value) : (v.toList ++ st).map (am_tr g) = (v.map (am_tr g)).toList ++ st.map (am_tr g) := by
  cases v <;> simp
theorem e_callS {y : am_Y} {idx n : Nat} {As S : List Value} {fc : Option β} {kf : β → Option α} (hS : S = As.reverse ++ st) (hdg : decode d.2.1 pc = .ok (.invokestatic idx, 3)) (hlk : am_Ml d.1.cls idx y) (hf : am_fit y d) (hy : am_Yok y n) (hst : am_SM y) (hn : As.length = n) (hml : (am_ents As).length ≤ y.2.2.1) (hcat : (st.map fun v => v.category).sum ≤ 8)
    (hE : am_E l g y 0 (am_ent y As) [] M (am_r ψ fc)) (k : ∀ a : β, am_E l g d (pc + 3) LS ((ψ a).1.toList ++ st) (ψ a).2 (am_r φ (kf a))) : am_E l g d pc LS S M (am_r φ (fc.bind kf)) := by
  subst hS
  cases fc with
  | none => exact am_none
  | some a =>
    refine am_goC (hE _ _ rfl).1 (fun p e R s m args below meth c hX H locs cells slots ls Q hll hR hS h1 h2 h3 h4 kk => ?_) (k a)
    rw [am_vst] at kk
    rw [List.map_append, List.map_reverse]
    exact am_wcallS hX hll hR hS hf h1 h2 hy hst hlk hn hml (by rw [am_catm]; exact hcat) hdg hE rfl ⟨h3, h4⟩ kk
theorem e_callI {y : am_Y} {idx n b : Nat} {As S : List Value} {fc : Option β} {kf : β → Option α} (hS : S = As.reverse ++ .ref b :: st) (hdg : decode d.2.1 pc = .ok (.invokespecial idx, 3)) (hlk : am_Ml d.1.cls idx y) (hf : am_fit y d) (hy : am_Yok y n) (hrt : y.2.2.2.1 = none) (hini : y.1.name = "<init>") (hst : am_IM y) (hn : As.length = n) (hml : (am_ents (.ref b :: As)).length ≤ y.2.2.1) (hcat : (st.map fun v => v.category).sum ≤ 8)
    (hE : am_E l g y 0 (am_ent y (.ref b :: As)) [] M (am_r ψ fc)) (k : ∀ a : β, am_E l g d (pc + 3) LS ((ψ a).1.toList ++ st) (ψ a).2 (am_r φ (kf a))) : am_E l g d pc LS S M (am_r φ (fc.bind kf)) := by
  subst hS
  cases fc with
  | none => exact am_none
  | some a =>
    refine am_goC (hE _ _ rfl).1 (fun p e R s m args below meth c hX H locs cells slots ls Q hll hR hS h1 h2 h3 h4 kk => ?_) (k a)
    rw [am_vst] at kk
    rw [List.map_append, List.map_reverse]
    exact am_wcallI hX hll hR hS hf h1 h2 hy hrt hini hst hlk hn hml (by rw [am_catm]; exact hcat) hdg hE rfl ⟨h3, h4⟩ kk
theorem e_callV {y : am_Y} {idx n b k0 : Nat} {r : vw_C} {As S : List Value} {fc : Option β} {kf : β → Option α} (hS : S = As.reverse ++ .ref b :: st) (hdg : decode d.2.1 pc = .ok (.invokevirtual idx, 3)) (hlk : am_Ml d.1.cls idx y) (hf : am_fit y d) (hy : am_Yok y n) (hst : am_VM y) (hcl : am_cl[k0]? = some r) (hrc : r.1 = y.1.cls) (hk0 : k0 < 11) (hsb : (am_sh M b).1 = k0) (hn : As.length = n) (hml : (am_ents (.ref b :: As)).length ≤ y.2.2.1) (hcat : (st.map fun v => v.category).sum ≤ 8)
    (hE : am_E l g y 0 (am_ent y (.ref b :: As)) [] M (am_r ψ fc)) (k : ∀ a : β, am_E l g d (pc + 3) LS ((ψ a).1.toList ++ st) (ψ a).2 (am_r φ (kf a))) : am_E l g d pc LS S M (am_r φ (fc.bind kf)) := by
  subst hS
  cases fc with
  | none => exact am_none
  | some a =>
    refine am_goC (hE _ _ rfl).1 (fun p e R s m args below meth c hX H locs cells slots ls Q hll hR hS h1 h2 h3 h4 kk => ?_) (k a)
    rw [am_vst] at kk
    rw [List.map_append, List.map_reverse]
    exact am_wcallV hX hll hR hS hf h1 h2 hy hst hcl hrc hk0 hsb hlk hn hml (by rw [am_catm]; exact hcat) hdg hE rfl ⟨h3, h4⟩ kk
/-! ends -/
theorem e_iret {x : Int32} {a : α} (hdg : decode d.2.1 pc = .ok (.ireturn, 1)) (hrt : d.2.2.2.1 = some .int) (ha : φ a = (some (.int x), M)) : am_E l g d pc LS [.int x] M (am_r φ (some a)) := by
  show am_E l g d pc LS [.int x] M (some (φ a))
  rw [ha]
  exact am_end rfl ⟨hdg, _, hrt, rfl⟩
theorem e_zret {x : Int32} {a : α} (hdg : decode d.2.1 pc = .ok (.ireturn, 1)) (hrt : d.2.2.2.1 = some .boolean) (ha : φ a = (some (.int x), M)) (hx : x = 0 ∨ x = 1) : am_E l g d pc LS [.int x] M (am_r φ (some a)) := by
  show am_E l g d pc LS [.int x] M (some (φ a))
  rw [ha]
  exact am_end rfl ⟨hdg, _, hrt, by rcases hx with rfl | rfl <;> rfl⟩
theorem e_lret {x : Int64} {a : α} (hdg : decode d.2.1 pc = .ok (.lreturn, 1)) (hrt : d.2.2.2.1 = some .long) (ha : φ a = (some (.long x), M)) : am_E l g d pc LS [.long x] M (am_r φ (some a)) := by
  show am_E l g d pc LS [.long x] M (some (φ a))
  rw [ha]
  exact am_end rfl ⟨hdg, hrt⟩
theorem e_aret {x : Nat} {C : String} {a : α} (hdg : decode d.2.1 pc = .ok (.areturn, 1)) (hrt : d.2.2.2.1 = some (.object C)) (ha : φ a = (some (.ref x), M)) : am_E l g d pc LS [.ref x] M (am_r φ (some a)) := by
  show am_E l g d pc LS [.ref x] M (some (φ a))
  rw [ha]
  exact am_end rfl ⟨hdg, _, hrt⟩
theorem e_vret {a : α} (hdg : decode d.2.1 pc = .ok (.return_, 1)) (hrt : d.2.2.2.1 = none) (ha : φ a = (none, M)) : am_E l g d pc LS [] M (am_r φ (some a)) := by
  show am_E l g d pc LS [] M (some (φ a))
  rw [ha]
  exact am_end rfl ⟨hdg, hrt⟩
end AF
end
section
/-! M as what stays (B: shapes, references, longs) and the ints u -/
abbrev am_U : Type := Nat → Nat → Int32
def am_of (B : am_M) (u : am_U) : am_M := (B.1, B.2.1, B.2.2.1, u, B.2.2.2.2.1, B.2.2.2.2.2)
def am_w (u : am_U) (i j : Nat) (v : Int32) : am_U := am_rw u i (upd (u i) j v)
abbrev am_bI (B : am_M) : Int32 × am_U → Option Value × am_M := fun q => (some (.int q.1), am_of B q.2)
abbrev am_bL (B : am_M) : Int64 × am_U → Option Value × am_M := fun q => (some (.long q.1), am_of B q.2)
abbrev am_bV (B : am_M) : am_U → Option Value × am_M := fun u => (none, am_of B u)
abbrev am_bP (B : am_M) (u : am_U) : Int32 → Option Value × am_M := fun r => (some (.int r), am_of B u)
abbrev am_bN (B : am_M) (u : am_U) : Int64 → Option Value × am_M := fun r => (some (.long r), am_of B u)
section AQ
variable {l : Launch} {g : am_G} {d : am_Y} {pc : Nat} {LS : am_L} {st : List Value} {B : am_M} {u : am_U} {o : Option (Option Value × am_M)} {α β : Type} {φ : α → Option Value × am_M} {ψ : β → Option Value × am_M} {f0 : Option α}
theorem q_getI {idx k f i : Nat} (hdg : decode d.2.1 pc = .ok (.getfield idx, 3)) (hl : am_Fl d.1.cls idx k f .int) (hk : k < 11) (hs : (am_sh B i).1 = k) (kk : am_E l g d (pc + 3) LS (.int (u i f) :: st) (am_of B u) o) : am_E l g d pc LS (.ref i :: st) (am_of B u) o := e_getI hdg hl hk hs kk
theorem q_getZ {idx k f i : Nat} (hdg : decode d.2.1 pc = .ok (.getfield idx, 3)) (hl : am_Fl d.1.cls idx k f .boolean) (hk : k < 11) (hs : (am_sh B i).1 = k) (kk : am_E l g d (pc + 3) LS (.int (u i f) :: st) (am_of B u) o) : am_E l g d pc LS (.ref i :: st) (am_of B u) o := e_getZ hdg hl hk hs kk
theorem q_getR {idx k f i r : Nat} {ty : FieldType} (hdg : decode d.2.1 pc = .ok (.getfield idx, 3)) (hl : am_Fl d.1.cls idx k f ty) (hty : am_isR ty = true) (hk : k < 11) (hs : (am_sh B i).1 = k) (hr : am_av (am_ro B i f) = .ref r) (kk : am_E l g d (pc + 3) LS (.ref r :: st) (am_of B u) o) : am_E l g d pc LS (.ref i :: st) (am_of B u) o := e_getR hdg hl hty hk hs hr kk
theorem q_putI {idx k f i : Nat} {v : Int32} (hdg : decode d.2.1 pc = .ok (.putfield idx, 3)) (hl : am_Fl d.1.cls idx k f .int) (hnf : am_nf k f = true) (hk : k < 11) (hs : (am_sh B i).1 = k) (kk : am_E l g d (pc + 3) LS st (am_of B (am_w u i f v)) o) : am_E l g d pc LS (.int v :: .ref i :: st) (am_of B u) o := e_putI hdg hl hnf hk hs kk
theorem q_putZ {idx k f i : Nat} {v : Int32} (hdg : decode d.2.1 pc = .ok (.putfield idx, 3)) (hl : am_Fl d.1.cls idx k f .boolean) (hnf : am_nf k f = true) (hk : k < 11) (hs : (am_sh B i).1 = k) (hz : v = 0 ∨ v = 1) (kk : am_E l g d (pc + 3) LS st (am_of B (am_w u i f v)) o) : am_E l g d pc LS (.int v :: .ref i :: st) (am_of B u) o := e_putZ hdg hl hnf hk hs hz kk
theorem q_iald {i n : Nat} {j : Int32} (hdg : decode d.2.1 pc = .ok (.iaload, 1)) (hs : am_sh B i = (12, n)) (kk : am_E l g d (pc + 1) LS (.int (u i j.toNatClampNeg) :: st) (am_of B u) (am_r φ f0)) : am_E l g d pc LS (.int j :: .ref i :: st) (am_of B u) (am_r φ (am_ck (am_ix j n) f0)) := e_iald hdg hs kk
theorem q_ialdC {i n jn : Nat} {j : Int32} (hdg : decode d.2.1 pc = .ok (.iaload, 1)) (hs : am_sh B i = (12, n)) (hj : am_ix j n = true) (hjn : j.toNatClampNeg = jn) (kk : am_E l g d (pc + 1) LS (.int (u i jn) :: st) (am_of B u) o) : am_E l g d pc LS (.int j :: .ref i :: st) (am_of B u) o := e_ialdC hdg hs hj hjn kk
theorem q_iast {i n : Nat} {j x : Int32} (hdg : decode d.2.1 pc = .ok (.iastore, 1)) (hs : am_sh B i = (12, n)) (kk : am_E l g d (pc + 1) LS st (am_of B (am_w u i j.toNatClampNeg x)) (am_r φ f0)) : am_E l g d pc LS (.int x :: .int j :: .ref i :: st) (am_of B u) (am_r φ (am_ck (am_ix j n) f0)) := e_iast hdg hs kk
theorem q_iastC {i n jn : Nat} {j x : Int32} (hdg : decode d.2.1 pc = .ok (.iastore, 1)) (hs : am_sh B i = (12, n)) (hj : am_ix j n = true) (hjn : j.toNatClampNeg = jn) (kk : am_E l g d (pc + 1) LS st (am_of B (am_w u i jn x)) o) : am_E l g d pc LS (.int x :: .int j :: .ref i :: st) (am_of B u) o := e_iastC hdg hs hj hjn kk
theorem q_bald {i n : Nat} {j : Int32} (hdg : decode d.2.1 pc = .ok (.baload, 1)) (hs : am_sh B i = (11, n) ∨ am_sh B i = (13, n)) (kk : am_E l g d (pc + 1) LS (.int (u i j.toNatClampNeg) :: st) (am_of B u) (am_r φ f0)) : am_E l g d pc LS (.int j :: .ref i :: st) (am_of B u) (am_r φ (am_ck (am_ix j n) f0)) := e_bald hdg hs kk
theorem q_bast {i n : Nat} {j x : Int32} (hdg : decode d.2.1 pc = .ok (.bastore, 1)) (hs : am_sh B i = (11, n)) (kk : am_E l g d (pc + 1) LS st (am_of B (am_w u i j.toNatClampNeg x.toInt8.toInt32)) (am_r φ f0)) : am_E l g d pc LS (.int x :: .int j :: .ref i :: st) (am_of B u) (am_r φ (am_ck (am_ix j n) f0)) := e_bast hdg hs kk
theorem q_zast {i n : Nat} {j x : Int32} (hdg : decode d.2.1 pc = .ok (.bastore, 1)) (hs : am_sh B i = (13, n)) (hz : x = 0 ∨ x = 1) (kk : am_E l g d (pc + 1) LS st (am_of B (am_w u i j.toNatClampNeg x)) (am_r φ f0)) : am_E l g d pc LS (.int x :: .int j :: .ref i :: st) (am_of B u) (am_r φ (am_ck (am_ix j n) f0)) := e_zast hdg hs hz kk
theorem q_cald {j : Int32} (hdg : decode d.2.1 pc = .ok (.caload, 1)) (kk : am_E l g d (pc + 1) LS (.int (am_let j.toNatClampNeg) :: st) (am_of B u) (am_r φ f0)) : am_E l g d pc LS (.int j :: .ref 2 :: st) (am_of B u) (am_r φ (am_ck (am_ix j 6) f0)) :=
  e_ck (fun h => am_goS (fun p e R s m args below meth c hX H locs cells slots ls Q hll hR hS kk => am_wcald hX hR hS (am_ix_in h) hdg (by
    rw [hR.2.2.2.2.2.2.1 _ (Nat.not_le.mp fun q => am_ix_in h (Or.inr q))]
    exact kk ls hll)) kk)
theorem q_ialdU {j : Int32} (hdg : decode d.2.1 pc = .ok (.iaload, 1)) (hs : am_sh B 3 = (16, 3)) (kk : am_E l g d (pc + 1) LS (.int (am_uni j.toNatClampNeg) :: st) (am_of B u) (am_r φ f0)) : am_E l g d pc LS (.int j :: .ref 3 :: st) (am_of B u) (am_r φ (am_ck (am_ix j 3) f0)) :=
  e_ck (fun h => am_goS (fun p e R s m args below meth c hX H locs cells slots ls Q hll hR hS kk => am_wiald hX hR hS (Or.inr (show (am_sh B 3).1 = 16 by rw [hs])) (show vp_in j (am_sh B 3).2 by rw [hs]; exact am_ix_in h) hdg (by
    rw [hR.2.2.2.2.2.2.2.1 _ (Nat.not_le.mp fun q => am_ix_in h (Or.inr q))]
    exact kk ls hll)) kk)
theorem q_aald {i n : Nat} {j : Int32} {rid : Nat} (hdg : decode d.2.1 pc = .ok (.aaload, 1)) (hs : am_sh B i = (14, n)) (hr : am_ix j n = true → am_av (am_ro B i j.toNatClampNeg) = .ref rid) (kk : am_ix j n = true → am_E l g d (pc + 1) LS (.ref rid :: st) (am_of B u) (am_r φ f0)) : am_E l g d pc LS (.int j :: .ref i :: st) (am_of B u) (am_r φ (am_ck (am_ix j n) f0)) :=
  e_ck (fun h => am_goS (fun p e R s m args below meth c hX H locs cells slots ls Q hll hR hS kk => am_waald hX hR (show (am_sh B i).1 = 14 by rw [hs]) (show vp_in j (am_sh B i).2 by rw [hs]; exact am_ix_in h) hdg (by
    show W _ _ _ _ _ _ _ _ _ _ _ _ _ _ _ (F0 _ _ _ (am_tr g (am_av (am_ro B i j.toNatClampNeg)) :: _))
    rw [hr h]; exact kk ls hll)) (kk h))
theorem q_alen {i k n : Nat} {v : Int32} (hdg : decode d.2.1 pc = .ok (.arraylength, 1)) (hs : am_sh B i = (k, n)) (hk : 11 ≤ k ∧ k < 17) (hv : nI n = v) (kk : am_E l g d (pc + 1) LS (.int v :: st) (am_of B u) o) : am_E l g d pc LS (.ref i :: st) (am_of B u) o := e_alen hdg hs hk hv kk
theorem q_copy {idx i0 i1 n0 n1 : Nat} {sp dp n : Int32} (hdg : decode d.2.1 pc = .ok (.invokestatic idx, 3)) (hw1 : Cond.methodLink d.1.cls idx arraycopyName ∈ lw_tbl) (hw2 : Cond.native arraycopyName ∈ lw_tbl) (hw3 : Cond.static arraycopyName ∈ lw_tbl) (hw4 : Cond.initialized "java/lang/System" ∈ lw_tbl) (hs0 : am_sh B i0 = (12, n0)) (hs1 : am_sh B i1 = (12, n1))
    (hfr : 1 ≤ d.2.2.2.2.1) (hlo : (st.map fun v => v.category).sum + (nativeFrameWords "java/lang/System" "arraycopy" 5 + 11) ≤ d.2.2.2.2.2)
    (kk : am_E l g d (pc + 3) LS st (am_of B (am_rw u i1 (va_cpy (u i0) (u i1) sp.toNatClampNeg dp.toNatClampNeg n.toNatClampNeg))) (am_r φ f0)) : am_E l g d pc LS (.int n :: .int dp :: .ref i1 :: .int sp :: .ref i0 :: st) (am_of B u) (am_r φ (am_ck (am_cp sp dp n n0 n1) f0)) := e_copy hdg hw1 hw2 hw3 hw4 hs0 hs1 hfr hlo kk
theorem q_callV {y : am_Y} {idx n b k0 : Nat} {r : vw_C} {As S : List Value} {fc : Option β} {kf : β → Option α} (hS : S = As.reverse ++ .ref b :: st) (hdg : decode d.2.1 pc = .ok (.invokevirtual idx, 3)) (hlk : am_Ml d.1.cls idx y) (hf : am_fit y d) (hy : am_Yok y n) (hst : am_VM y) (hcl : am_cl[k0]? = some r) (hrc : r.1 = y.1.cls) (hk0 : k0 < 11) (hsb : (am_sh B b).1 = k0) (hn : As.length = n) (hml : (am_ents (.ref b :: As)).length ≤ y.2.2.1) (hcat : (st.map fun v => v.category).sum ≤ 8)
    (hE : am_E l g y 0 (am_ent y (.ref b :: As)) [] (am_of B u) (am_r ψ fc)) (k : ∀ a : β, am_E l g d (pc + 3) LS ((ψ a).1.toList ++ st) (ψ a).2 (am_r φ (kf a))) : am_E l g d pc LS S (am_of B u) (am_r φ (fc.bind kf)) := e_callV hS hdg hlk hf hy hst hcl hrc hk0 hsb hn hml hcat hE k
/-- a boolean's end, where it comes from a call -/
theorem e_zretq {M : am_M} {x : Int32} {a : α} (hdg : decode d.2.1 pc = .ok (.ireturn, 1)) (hrt : d.2.2.2.1 = some .boolean) (ha : φ a = (some (.int x), M)) : am_E l g d pc LS [.int x] M (am_r φ (am_ck (x == 0 || x == 1) (some a))) :=
  e_ck (fun h => e_zret hdg hrt ha (by simpa using h))
theorem e_divq {M : am_M} {x y : Int32} (hdg : decode d.2.1 pc = .ok (.idiv, 1)) (k : am_E l g d (pc + 1) LS (.int (x / y) :: st) M (am_r φ f0)) : am_E l g d pc LS (.int y :: .int x :: st) M (am_r φ (am_ck (!(y == 0)) f0)) :=
  e_ck (fun h => e_idiv hdg (by simpa using h) k)
theorem e_remq {M : am_M} {x y : Int32} (hdg : decode d.2.1 pc = .ok (.irem, 1)) (k : am_E l g d (pc + 1) LS (.int (x - x / y * y) :: st) M (am_r φ f0)) : am_E l g d pc LS (.int y :: .int x :: st) M (am_r φ (am_ck (!(y == 0)) f0)) :=
  e_ck (fun h => e_irem hdg (by simpa using h) k)
theorem e_ldivq {M : am_M} {x y : Int64} (hdg : decode d.2.1 pc = .ok (.ldiv, 1)) (k : am_E l g d (pc + 1) LS (.long (x / y) :: st) M (am_r φ f0)) : am_E l g d pc LS (.long y :: .long x :: st) M (am_r φ (am_ck (!(y == 0)) f0)) :=
  e_ck (fun h => e_ldiv hdg (by simpa using h) k)
theorem e_lremq {M : am_M} {x y : Int64} (hdg : decode d.2.1 pc = .ok (.lrem, 1)) (k : am_E l g d (pc + 1) LS (.long (x - x / y * y) :: st) M (am_r φ f0)) : am_E l g d pc LS (.long y :: .long x :: st) M (am_r φ (am_ck (!(y == 0)) f0)) :=
  e_ck (fun h => e_lrem hdg (by simpa using h) k)
end AQ
/-! what stays: the cells of the class and of the reference -/
def am_lsh : List (Nat × Nat) := []
end
