abbrev d_J6_bitCount_0f7a4 : am_Y := (yJ6_bitCount_0f7a4, cJ6_bitCount_0f7a4, 1, (some .int), 0, 0)
theorem yo_J6_bitCount_0f7a4 : am_Yok d_J6_bitCount_0f7a4 1 := ⟨List.mem_of_getElem? (i := 664) (by decide +kernel), List.mem_of_getElem? (i := 86) (by decide +kernel), by decide +kernel, ⟨by decide +kernel, by decide +kernel⟩, by decide +kernel⟩
theorem ys_J6_bitCount_0f7a4 : am_SM d_J6_bitCount_0f7a4 := List.mem_of_getElem? (i := 663) (by decide +kernel)
abbrev d_J7_fill_53178 : am_Y := (yJ7_fill_53178, cJ7_fill_53178, 4, none, 0, 0)
theorem yo_J7_fill_53178 : am_Yok d_J7_fill_53178 2 := ⟨List.mem_of_getElem? (i := 299) (by decide +kernel), List.mem_of_getElem? (i := 82) (by decide +kernel), by decide +kernel, ⟨by decide +kernel, by decide +kernel⟩, by decide +kernel⟩
theorem ys_J7_fill_53178 : am_SM d_J7_fill_53178 := List.mem_of_getElem? (i := 298) (by decide +kernel)
abbrev d_J9_floorDiv_7cf53 : am_Y := (yJ9_floorDiv_7cf53, cJ9_floorDiv_7cf53, 3, (some .int), 0, 0)
theorem yo_J9_floorDiv_7cf53 : am_Yok d_J9_floorDiv_7cf53 2 := ⟨List.mem_of_getElem? (i := 683) (by decide +kernel), List.mem_of_getElem? (i := 77) (by decide +kernel), by decide +kernel, ⟨by decide +kernel, by decide +kernel⟩, by decide +kernel⟩
theorem ys_J9_floorDiv_7cf53 : am_SM d_J9_floorDiv_7cf53 := List.mem_of_getElem? (i := 682) (by decide +kernel)
abbrev d_J9_floorMod_7cf53 : am_Y := (yJ9_floorMod_7cf53, cJ9_floorMod_7cf53, 3, (some .int), 0, 0)
theorem yo_J9_floorMod_7cf53 : am_Yok d_J9_floorMod_7cf53 2 := ⟨List.mem_of_getElem? (i := 690) (by decide +kernel), List.mem_of_getElem? (i := 77) (by decide +kernel), by decide +kernel, ⟨by decide +kernel, by decide +kernel⟩, by decide +kernel⟩
theorem ys_J9_floorMod_7cf53 : am_SM d_J9_floorMod_7cf53 := List.mem_of_getElem? (i := 689) (by decide +kernel)
abbrev d_J9_max_7cf53 : am_Y := (yJ9_max_7cf53, cJ9_max_7cf53, 2, (some .int), 0, 0)
theorem yo_J9_max_7cf53 : am_Yok d_J9_max_7cf53 2 := ⟨List.mem_of_getElem? (i := 170) (by decide +kernel), List.mem_of_getElem? (i := 77) (by decide +kernel), by decide +kernel, ⟨by decide +kernel, by decide +kernel⟩, by decide +kernel⟩
theorem ys_J9_max_7cf53 : am_SM d_J9_max_7cf53 := List.mem_of_getElem? (i := 169) (by decide +kernel)
abbrev d_J9_min_7cf53 : am_Y := (yJ9_min_7cf53, cJ9_min_7cf53, 2, (some .int), 0, 0)
theorem yo_J9_min_7cf53 : am_Yok d_J9_min_7cf53 2 := ⟨List.mem_of_getElem? (i := 574) (by decide +kernel), List.mem_of_getElem? (i := 77) (by decide +kernel), by decide +kernel, ⟨by decide +kernel, by decide +kernel⟩, by decide +kernel⟩
theorem ys_J9_min_7cf53 : am_SM d_J9_min_7cf53 := List.mem_of_getElem? (i := 573) (by decide +kernel)
abbrev d_L_law : am_Y := (yL_law, cL_law, 4, (some .boolean), 8, 181)
abbrev d_X0_add : am_Y := (yX0_add, cX0_add, 3, (some .int), 0, 0)
theorem yo_X0_add : am_Yok d_X0_add 2 := ⟨List.mem_of_getElem? (i := 828) (by decide +kernel), List.mem_of_getElem? (i := 78) (by decide +kernel), by decide +kernel, ⟨by decide +kernel, by decide +kernel⟩, by decide +kernel⟩
theorem ys_X0_add : am_VM d_X0_add := ⟨List.mem_of_getElem? (i := 826) (by decide +kernel), List.mem_of_getElem? (i := 827) (by decide +kernel)⟩
abbrev d_X0_burningTime : am_Y := (yX0_burningTime, cX0_burningTime, 5, (some .int), 0, 0)
theorem yo_X0_burningTime : am_Yok d_X0_burningTime 3 := ⟨List.mem_of_getElem? (i := 847) (by decide +kernel), List.mem_of_getElem? (i := 78) (by decide +kernel), by decide +kernel, ⟨by decide +kernel, by decide +kernel⟩, by decide +kernel⟩
theorem ys_X0_burningTime : am_SM d_X0_burningTime := List.mem_of_getElem? (i := 846) (by decide +kernel)
abbrev d_X0_canBe : am_Y := (yX0_canBe, cX0_canBe, 4, (some .boolean), 1, 24)
theorem yo_X0_canBe : am_Yok d_X0_canBe 2 := ⟨List.mem_of_getElem? (i := 844) (by decide +kernel), List.mem_of_getElem? (i := 78) (by decide +kernel), by decide +kernel, ⟨by decide +kernel, by decide +kernel⟩, by decide +kernel⟩
theorem ys_X0_canBe : am_VM d_X0_canBe := ⟨List.mem_of_getElem? (i := 843) (by decide +kernel), List.mem_of_getElem? (i := 29) (by decide +kernel)⟩
abbrev d_X0_gather : am_Y := (yX0_gather, cX0_gather, 3, (some .int), 2, 47)
theorem yo_X0_gather : am_Yok d_X0_gather 1 := ⟨List.mem_of_getElem? (i := 840) (by decide +kernel), List.mem_of_getElem? (i := 78) (by decide +kernel), by decide +kernel, ⟨by decide +kernel, by decide +kernel⟩, by decide +kernel⟩
theorem ys_X0_gather : am_VM d_X0_gather := ⟨List.mem_of_getElem? (i := 838) (by decide +kernel), List.mem_of_getElem? (i := 839) (by decide +kernel)⟩
abbrev d_X0_inAll : am_Y := (yX0_inAll, cX0_inAll, 3, (some .int), 0, 0)
theorem yo_X0_inAll : am_Yok d_X0_inAll 0 := ⟨List.mem_of_getElem? (i := 855) (by decide +kernel), List.mem_of_getElem? (i := 78) (by decide +kernel), by decide +kernel, ⟨by decide +kernel, by decide +kernel⟩, by decide +kernel⟩
theorem ys_X0_inAll : am_VM d_X0_inAll := ⟨List.mem_of_getElem? (i := 853) (by decide +kernel), List.mem_of_getElem? (i := 854) (by decide +kernel)⟩
abbrev d_X0_inAny : am_Y := (yX0_inAny, cX0_inAny, 3, (some .int), 0, 0)
theorem yo_X0_inAny : am_Yok d_X0_inAny 0 := ⟨List.mem_of_getElem? (i := 859) (by decide +kernel), List.mem_of_getElem? (i := 78) (by decide +kernel), by decide +kernel, ⟨by decide +kernel, by decide +kernel⟩, by decide +kernel⟩
theorem ys_X0_inAny : am_VM d_X0_inAny := ⟨List.mem_of_getElem? (i := 857) (by decide +kernel), List.mem_of_getElem? (i := 858) (by decide +kernel)⟩
abbrev d_X0_init : am_Y := (yX0_init, cX0_init, 1, none, 1, 40)
theorem yo_X0_init : am_Yok d_X0_init 0 := ⟨List.mem_of_getElem? (i := 195) (by decide +kernel), List.mem_of_getElem? (i := 78) (by decide +kernel), by decide +kernel, ⟨by decide +kernel, by decide +kernel⟩, by decide +kernel⟩
theorem ys_X0_init : am_IM d_X0_init := List.mem_of_getElem? (i := 194) (by decide +kernel)
abbrev d_X0_mostLeft : am_Y := (yX0_mostLeft, cX0_mostLeft, 6, (some .int), 1, 24)
theorem yo_X0_mostLeft : am_Yok d_X0_mostLeft 2 := ⟨List.mem_of_getElem? (i := 871) (by decide +kernel), List.mem_of_getElem? (i := 78) (by decide +kernel), by decide +kernel, ⟨by decide +kernel, by decide +kernel⟩, by decide +kernel⟩
theorem ys_X0_mostLeft : am_VM d_X0_mostLeft := ⟨List.mem_of_getElem? (i := 869) (by decide +kernel), List.mem_of_getElem? (i := 870) (by decide +kernel)⟩
abbrev d_X0_nextToBurn : am_Y := (yX0_nextToBurn, cX0_nextToBurn, 7, (some .int), 2, 49)
theorem yo_X0_nextToBurn : am_Yok d_X0_nextToBurn 1 := ⟨List.mem_of_getElem? (i := 867) (by decide +kernel), List.mem_of_getElem? (i := 78) (by decide +kernel), by decide +kernel, ⟨by decide +kernel, by decide +kernel⟩, by decide +kernel⟩
theorem ys_X0_nextToBurn : am_VM d_X0_nextToBurn := ⟨List.mem_of_getElem? (i := 865) (by decide +kernel), List.mem_of_getElem? (i := 866) (by decide +kernel)⟩
abbrev d_X10_allLight : am_Y := (yX10_allLight, cX10_allLight, 3, (some .int), 0, 0)
theorem yo_X10_allLight : am_Yok d_X10_allLight 0 := ⟨List.mem_of_getElem? (i := 926) (by decide +kernel), List.mem_of_getElem? (i := 72) (by decide +kernel), by decide +kernel, ⟨by decide +kernel, by decide +kernel⟩, by decide +kernel⟩
theorem ys_X10_allLight : am_VM d_X10_allLight := ⟨List.mem_of_getElem? (i := 925) (by decide +kernel), List.mem_of_getElem? (i := 31) (by decide +kernel)⟩
abbrev d_X10_asked : am_Y := (yX10_asked, cX10_asked, 1, (some .int), 0, 0)
theorem yo_X10_asked : am_Yok d_X10_asked 0 := ⟨List.mem_of_getElem? (i := 918) (by decide +kernel), List.mem_of_getElem? (i := 72) (by decide +kernel), by decide +kernel, ⟨by decide +kernel, by decide +kernel⟩, by decide +kernel⟩
theorem ys_X10_asked : am_VM d_X10_asked := ⟨List.mem_of_getElem? (i := 916) (by decide +kernel), List.mem_of_getElem? (i := 917) (by decide +kernel)⟩
abbrev d_X10_at : am_Y := (yX10_at, cX10_at, 4, (some .int), 3, 68)
theorem yo_X10_at : am_Yok d_X10_at 2 := ⟨List.mem_of_getElem? (i := 393) (by decide +kernel), List.mem_of_getElem? (i := 72) (by decide +kernel), by decide +kernel, ⟨by decide +kernel, by decide +kernel⟩, by decide +kernel⟩
theorem ys_X10_at : am_VM d_X10_at := ⟨List.mem_of_getElem? (i := 391) (by decide +kernel), List.mem_of_getElem? (i := 392) (by decide +kernel)⟩
abbrev d_X10_best : am_Y := (yX10_best, cX10_best, 4, (some .int), 4, 88)
theorem yo_X10_best : am_Yok d_X10_best 1 := ⟨List.mem_of_getElem? (i := 642) (by decide +kernel), List.mem_of_getElem? (i := 72) (by decide +kernel), by decide +kernel, ⟨by decide +kernel, by decide +kernel⟩, by decide +kernel⟩
theorem ys_X10_best : am_VM d_X10_best := ⟨List.mem_of_getElem? (i := 640) (by decide +kernel), List.mem_of_getElem? (i := 641) (by decide +kernel)⟩
abbrev d_X10_brings : am_Y := (yX10_brings, cX10_brings, 3, (some .int), 4, 88)
theorem yo_X10_brings : am_Yok d_X10_brings 2 := ⟨List.mem_of_getElem? (i := 627) (by decide +kernel), List.mem_of_getElem? (i := 72) (by decide +kernel), by decide +kernel, ⟨by decide +kernel, by decide +kernel⟩, by decide +kernel⟩
theorem ys_X10_brings : am_VM d_X10_brings := ⟨List.mem_of_getElem? (i := 625) (by decide +kernel), List.mem_of_getElem? (i := 626) (by decide +kernel)⟩
abbrev d_X10_burnt : am_Y := (yX10_burnt, cX10_burnt, 3, (some .int), 1, 22)
theorem yo_X10_burnt : am_Yok d_X10_burnt 2 := ⟨List.mem_of_getElem? (i := 824) (by decide +kernel), List.mem_of_getElem? (i := 72) (by decide +kernel), by decide +kernel, ⟨by decide +kernel, by decide +kernel⟩, by decide +kernel⟩
theorem ys_X10_burnt : am_VM d_X10_burnt := ⟨List.mem_of_getElem? (i := 822) (by decide +kernel), List.mem_of_getElem? (i := 823) (by decide +kernel)⟩
abbrev d_X10_carry : am_Y := (yX10_carry, cX10_carry, 4, (some .int), 3, 86)
theorem yo_X10_carry : am_Yok d_X10_carry 2 := ⟨List.mem_of_getElem? (i := 564) (by decide +kernel), List.mem_of_getElem? (i := 72) (by decide +kernel), by decide +kernel, ⟨by decide +kernel, by decide +kernel⟩, by decide +kernel⟩
theorem ys_X10_carry : am_VM d_X10_carry := ⟨List.mem_of_getElem? (i := 562) (by decide +kernel), List.mem_of_getElem? (i := 563) (by decide +kernel)⟩
abbrev d_X10_commonDivisor : am_Y := (yX10_commonDivisor, cX10_commonDivisor, 3, (some .int), 0, 0)
theorem yo_X10_commonDivisor : am_Yok d_X10_commonDivisor 2 := ⟨List.mem_of_getElem? (i := 933) (by decide +kernel), List.mem_of_getElem? (i := 72) (by decide +kernel), by decide +kernel, ⟨by decide +kernel, by decide +kernel⟩, by decide +kernel⟩
theorem ys_X10_commonDivisor : am_SM d_X10_commonDivisor := List.mem_of_getElem? (i := 932) (by decide +kernel)
abbrev d_X10_copy : am_Y := (yX10_copy, cX10_copy, 8, (some .int), 1, 40)
theorem yo_X10_copy : am_Yok d_X10_copy 5 := ⟨List.mem_of_getElem? (i := 401) (by decide +kernel), List.mem_of_getElem? (i := 72) (by decide +kernel), by decide +kernel, ⟨by decide +kernel, by decide +kernel⟩, by decide +kernel⟩
theorem ys_X10_copy : am_VM d_X10_copy := ⟨List.mem_of_getElem? (i := 399) (by decide +kernel), List.mem_of_getElem? (i := 400) (by decide +kernel)⟩
abbrev d_X10_count : am_Y := (yX10_count, cX10_count, 2, (some .int), 2, 44)
theorem yo_X10_count : am_Yok d_X10_count 1 := ⟨List.mem_of_getElem? (i := 941) (by decide +kernel), List.mem_of_getElem? (i := 72) (by decide +kernel), by decide +kernel, ⟨by decide +kernel, by decide +kernel⟩, by decide +kernel⟩
theorem ys_X10_count : am_VM d_X10_count := ⟨List.mem_of_getElem? (i := 939) (by decide +kernel), List.mem_of_getElem? (i := 940) (by decide +kernel)⟩
abbrev d_X10_countDark : am_Y := (yX10_countDark, cX10_countDark, 3, (some .int), 0, 0)
theorem yo_X10_countDark : am_Yok d_X10_countDark 0 := ⟨List.mem_of_getElem? (i := 597) (by decide +kernel), List.mem_of_getElem? (i := 72) (by decide +kernel), by decide +kernel, ⟨by decide +kernel, by decide +kernel⟩, by decide +kernel⟩
theorem ys_X10_countDark : am_VM d_X10_countDark := ⟨List.mem_of_getElem? (i := 596) (by decide +kernel), List.mem_of_getElem? (i := 20) (by decide +kernel)⟩
abbrev d_X10_countThere : am_Y := (yX10_countThere, cX10_countThere, 3, (some .int), 1, 20)
theorem yo_X10_countThere : am_Yok d_X10_countThere 1 := ⟨List.mem_of_getElem? (i := 949) (by decide +kernel), List.mem_of_getElem? (i := 72) (by decide +kernel), by decide +kernel, ⟨by decide +kernel, by decide +kernel⟩, by decide +kernel⟩
theorem ys_X10_countThere : am_SM d_X10_countThere := List.mem_of_getElem? (i := 948) (by decide +kernel)
abbrev d_X10_digest : am_Y := (yX10_digest, cX10_digest, 5, (some .long), 3, 65)
theorem yo_X10_digest : am_Yok d_X10_digest 0 := ⟨List.mem_of_getElem? (i := 961) (by decide +kernel), List.mem_of_getElem? (i := 72) (by decide +kernel), by decide +kernel, ⟨by decide +kernel, by decide +kernel⟩, by decide +kernel⟩
theorem ys_X10_digest : am_VM d_X10_digest := ⟨List.mem_of_getElem? (i := 959) (by decide +kernel), List.mem_of_getElem? (i := 960) (by decide +kernel)⟩
abbrev d_X10_digestRows : am_Y := (yX10_digestRows, cX10_digestRows, 7, (some .long), 0, 0)
theorem yo_X10_digestRows : am_Yok d_X10_digestRows 2 := ⟨List.mem_of_getElem? (i := 967) (by decide +kernel), List.mem_of_getElem? (i := 72) (by decide +kernel), by decide +kernel, ⟨by decide +kernel, by decide +kernel⟩, by decide +kernel⟩
theorem ys_X10_digestRows : am_SM d_X10_digestRows := List.mem_of_getElem? (i := 966) (by decide +kernel)
abbrev d_X10_doLot : am_Y := (yX10_doLot, cX10_doLot, 3, (some .int), 4, 110)
theorem yo_X10_doLot : am_Yok d_X10_doLot 2 := ⟨List.mem_of_getElem? (i := 909) (by decide +kernel), List.mem_of_getElem? (i := 72) (by decide +kernel), by decide +kernel, ⟨by decide +kernel, by decide +kernel⟩, by decide +kernel⟩
theorem ys_X10_doLot : am_VM d_X10_doLot := ⟨List.mem_of_getElem? (i := 908) (by decide +kernel), List.mem_of_getElem? (i := 30) (by decide +kernel)⟩
abbrev d_X10_fault : am_Y := (yX10_fault, cX10_fault, 3, (some .int), 6, 130)
theorem yo_X10_fault : am_Yok d_X10_fault 1 := ⟨List.mem_of_getElem? (i := 428) (by decide +kernel), List.mem_of_getElem? (i := 72) (by decide +kernel), by decide +kernel, ⟨by decide +kernel, by decide +kernel⟩, by decide +kernel⟩
theorem ys_X10_fault : am_VM d_X10_fault := ⟨List.mem_of_getElem? (i := 426) (by decide +kernel), List.mem_of_getElem? (i := 427) (by decide +kernel)⟩
abbrev d_X10_fill : am_Y := (yX10_fill, cX10_fill, 3, (some .int), 3, 86)
theorem yo_X10_fill : am_Yok d_X10_fill 1 := ⟨List.mem_of_getElem? (i := 547) (by decide +kernel), List.mem_of_getElem? (i := 72) (by decide +kernel), by decide +kernel, ⟨by decide +kernel, by decide +kernel⟩, by decide +kernel⟩
theorem ys_X10_fill : am_VM d_X10_fill := ⟨List.mem_of_getElem? (i := 545) (by decide +kernel), List.mem_of_getElem? (i := 546) (by decide +kernel)⟩
abbrev d_X10_find : am_Y := (yX10_find, cX10_find, 2, (some .int), 0, 0)
theorem yo_X10_find : am_Yok d_X10_find 1 := ⟨List.mem_of_getElem? (i := 360) (by decide +kernel), List.mem_of_getElem? (i := 72) (by decide +kernel), by decide +kernel, ⟨by decide +kernel, by decide +kernel⟩, by decide +kernel⟩
theorem ys_X10_find : am_VM d_X10_find := ⟨List.mem_of_getElem? (i := 359) (by decide +kernel), List.mem_of_getElem? (i := 1) (by decide +kernel)⟩
abbrev d_X10_finding : am_Y := (yX10_finding, cX10_finding, 1, (some .int), 0, 0)
theorem yo_X10_finding : am_Yok d_X10_finding 0 := ⟨List.mem_of_getElem? (i := 953) (by decide +kernel), List.mem_of_getElem? (i := 72) (by decide +kernel), by decide +kernel, ⟨by decide +kernel, by decide +kernel⟩, by decide +kernel⟩
theorem ys_X10_finding : am_VM d_X10_finding := ⟨List.mem_of_getElem? (i := 951) (by decide +kernel), List.mem_of_getElem? (i := 952) (by decide +kernel)⟩
abbrev d_X10_findings : am_Y := (yX10_findings, cX10_findings, 2, (some .int), 1, 22)
theorem yo_X10_findings : am_Yok d_X10_findings 1 := ⟨List.mem_of_getElem? (i := 957) (by decide +kernel), List.mem_of_getElem? (i := 72) (by decide +kernel), by decide +kernel, ⟨by decide +kernel, by decide +kernel⟩, by decide +kernel⟩
theorem ys_X10_findings : am_VM d_X10_findings := ⟨List.mem_of_getElem? (i := 955) (by decide +kernel), List.mem_of_getElem? (i := 956) (by decide +kernel)⟩
abbrev d_X10_forget : am_Y := (yX10_forget, cX10_forget, 3, (some .int), 1, 22)
theorem yo_X10_forget : am_Yok d_X10_forget 1 := ⟨List.mem_of_getElem? (i := 832) (by decide +kernel), List.mem_of_getElem? (i := 72) (by decide +kernel), by decide +kernel, ⟨by decide +kernel, by decide +kernel⟩, by decide +kernel⟩
theorem ys_X10_forget : am_VM d_X10_forget := ⟨List.mem_of_getElem? (i := 830) (by decide +kernel), List.mem_of_getElem? (i := 831) (by decide +kernel)⟩
abbrev d_X10_init : am_Y := (yX10_init, cX10_init, 2, none, 3, 81)
theorem yo_X10_init : am_Yok d_X10_init 0 := ⟨List.mem_of_getElem? (i := 92) (by decide +kernel), List.mem_of_getElem? (i := 72) (by decide +kernel), by decide +kernel, ⟨by decide +kernel, by decide +kernel⟩, by decide +kernel⟩
theorem ys_X10_init : am_IM d_X10_init := List.mem_of_getElem? (i := 91) (by decide +kernel)
abbrev d_X10_isJar : am_Y := (yX10_isJar, cX10_isJar, 2, (some .boolean), 1, 22)
theorem yo_X10_isJar : am_Yok d_X10_isJar 1 := ⟨List.mem_of_getElem? (i := 496) (by decide +kernel), List.mem_of_getElem? (i := 72) (by decide +kernel), by decide +kernel, ⟨by decide +kernel, by decide +kernel⟩, by decide +kernel⟩
theorem ys_X10_isJar : am_VM d_X10_isJar := ⟨List.mem_of_getElem? (i := 495) (by decide +kernel), List.mem_of_getElem? (i := 14) (by decide +kernel)⟩
abbrev d_X10_isPlace : am_Y := (yX10_isPlace, cX10_isPlace, 1, (some .boolean), 1, 22)
theorem yo_X10_isPlace : am_Yok d_X10_isPlace 1 := ⟨List.mem_of_getElem? (i := 527) (by decide +kernel), List.mem_of_getElem? (i := 72) (by decide +kernel), by decide +kernel, ⟨by decide +kernel, by decide +kernel⟩, by decide +kernel⟩
theorem ys_X10_isPlace : am_SM d_X10_isPlace := List.mem_of_getElem? (i := 526) (by decide +kernel)
abbrev d_X10_isValley : am_Y := (yX10_isValley, cX10_isValley, 1, (some .boolean), 2, 42)
theorem yo_X10_isValley : am_Yok d_X10_isValley 1 := ⟨List.mem_of_getElem? (i := 697) (by decide +kernel), List.mem_of_getElem? (i := 72) (by decide +kernel), by decide +kernel, ⟨by decide +kernel, by decide +kernel⟩, by decide +kernel⟩
theorem ys_X10_isValley : am_SM d_X10_isValley := List.mem_of_getElem? (i := 696) (by decide +kernel)
abbrev d_X10_isWithin : am_Y := (yX10_isWithin, cX10_isWithin, 3, (some .boolean), 0, 0)
theorem yo_X10_isWithin : am_Yok d_X10_isWithin 3 := ⟨List.mem_of_getElem? (i := 352) (by decide +kernel), List.mem_of_getElem? (i := 72) (by decide +kernel), by decide +kernel, ⟨by decide +kernel, by decide +kernel⟩, by decide +kernel⟩
theorem ys_X10_isWithin : am_SM d_X10_isWithin := List.mem_of_getElem? (i := 351) (by decide +kernel)
abbrev d_X10_jar : am_Y := (yX10_jar, cX10_jar, 3, (some .int), 2, 43)
theorem yo_X10_jar : am_Yok d_X10_jar 2 := ⟨List.mem_of_getElem? (i := 492) (by decide +kernel), List.mem_of_getElem? (i := 72) (by decide +kernel), by decide +kernel, ⟨by decide +kernel, by decide +kernel⟩, by decide +kernel⟩
theorem ys_X10_jar : am_VM d_X10_jar := ⟨List.mem_of_getElem? (i := 490) (by decide +kernel), List.mem_of_getElem? (i := 491) (by decide +kernel)⟩
abbrev d_X10_jarTells : am_Y := (yX10_jarTells, cX10_jarTells, 3, (some .int), 0, 0)
theorem yo_X10_jarTells : am_Yok d_X10_jarTells 2 := ⟨List.mem_of_getElem? (i := 500) (by decide +kernel), List.mem_of_getElem? (i := 72) (by decide +kernel), by decide +kernel, ⟨by decide +kernel, by decide +kernel⟩, by decide +kernel⟩
theorem ys_X10_jarTells : am_VM d_X10_jarTells := ⟨List.mem_of_getElem? (i := 499) (by decide +kernel), List.mem_of_getElem? (i := 15) (by decide +kernel)⟩
abbrev d_X10_keep : am_Y := (yX10_keep, cX10_keep, 2, (some .int), 2, 63)
theorem yo_X10_keep : am_Yok d_X10_keep 1 := ⟨List.mem_of_getElem? (i := 617) (by decide +kernel), List.mem_of_getElem? (i := 72) (by decide +kernel), by decide +kernel, ⟨by decide +kernel, by decide +kernel⟩, by decide +kernel⟩
theorem ys_X10_keep : am_VM d_X10_keep := ⟨List.mem_of_getElem? (i := 615) (by decide +kernel), List.mem_of_getElem? (i := 616) (by decide +kernel)⟩
abbrev d_X10_land : am_Y := (yX10_land, cX10_land, 4, (some .int), 6, 130)
theorem yo_X10_land : am_Yok d_X10_land 1 := ⟨List.mem_of_getElem? (i := 479) (by decide +kernel), List.mem_of_getElem? (i := 72) (by decide +kernel), by decide +kernel, ⟨by decide +kernel, by decide +kernel⟩, by decide +kernel⟩
theorem ys_X10_land : am_VM d_X10_land := ⟨List.mem_of_getElem? (i := 477) (by decide +kernel), List.mem_of_getElem? (i := 478) (by decide +kernel)⟩
abbrev d_X10_lay : am_Y := (yX10_lay, cX10_lay, 6, (some .int), 3, 68)
theorem yo_X10_lay : am_Yok d_X10_lay 3 := ⟨List.mem_of_getElem? (i := 369) (by decide +kernel), List.mem_of_getElem? (i := 72) (by decide +kernel), by decide +kernel, ⟨by decide +kernel, by decide +kernel⟩, by decide +kernel⟩
theorem ys_X10_lay : am_VM d_X10_lay := ⟨List.mem_of_getElem? (i := 367) (by decide +kernel), List.mem_of_getElem? (i := 368) (by decide +kernel)⟩
abbrev d_X10_leakAll : am_Y := (yX10_leakAll, cX10_leakAll, 4, (some .int), 2, 42)
theorem yo_X10_leakAll : am_Yok d_X10_leakAll 0 := ⟨List.mem_of_getElem? (i := 593) (by decide +kernel), List.mem_of_getElem? (i := 72) (by decide +kernel), by decide +kernel, ⟨by decide +kernel, by decide +kernel⟩, by decide +kernel⟩
theorem ys_X10_leakAll : am_VM d_X10_leakAll := ⟨List.mem_of_getElem? (i := 592) (by decide +kernel), List.mem_of_getElem? (i := 19) (by decide +kernel)⟩
abbrev d_X10_lightAt : am_Y := (yX10_lightAt, cX10_lightAt, 4, (some .int), 0, 0)
theorem yo_X10_lightAt : am_Yok d_X10_lightAt 1 := ⟨List.mem_of_getElem? (i := 535) (by decide +kernel), List.mem_of_getElem? (i := 72) (by decide +kernel), by decide +kernel, ⟨by decide +kernel, by decide +kernel⟩, by decide +kernel⟩
theorem ys_X10_lightAt : am_VM d_X10_lightAt := ⟨List.mem_of_getElem? (i := 534) (by decide +kernel), List.mem_of_getElem? (i := 17) (by decide +kernel)⟩
abbrev d_X10_loads : am_Y := (yX10_loads, cX10_loads, 1, (some .int), 7, 161)
theorem yo_X10_loads : am_Yok d_X10_loads 0 := ⟨List.mem_of_getElem? (i := 646) (by decide +kernel), List.mem_of_getElem? (i := 72) (by decide +kernel), by decide +kernel, ⟨by decide +kernel, by decide +kernel⟩, by decide +kernel⟩
theorem ys_X10_loads : am_VM d_X10_loads := ⟨List.mem_of_getElem? (i := 644) (by decide +kernel), List.mem_of_getElem? (i := 645) (by decide +kernel)⟩
abbrev d_X10_loss : am_Y := (yX10_loss, cX10_loss, 4, (some .int), 5, 117)
theorem yo_X10_loss : am_Yok d_X10_loss 2 := ⟨List.mem_of_getElem? (i := 806) (by decide +kernel), List.mem_of_getElem? (i := 72) (by decide +kernel), by decide +kernel, ⟨by decide +kernel, by decide +kernel⟩, by decide +kernel⟩
theorem ys_X10_loss : am_VM d_X10_loss := ⟨List.mem_of_getElem? (i := 804) (by decide +kernel), List.mem_of_getElem? (i := 805) (by decide +kernel)⟩
abbrev d_X10_lots : am_Y := (yX10_lots, cX10_lots, 7, (some .int), 5, 132)
theorem yo_X10_lots : am_Yok d_X10_lots 2 := ⟨List.mem_of_getElem? (i := 900) (by decide +kernel), List.mem_of_getElem? (i := 72) (by decide +kernel), by decide +kernel, ⟨by decide +kernel, by decide +kernel⟩, by decide +kernel⟩
theorem ys_X10_lots : am_VM d_X10_lots := ⟨List.mem_of_getElem? (i := 898) (by decide +kernel), List.mem_of_getElem? (i := 899) (by decide +kernel)⟩
abbrev d_X10_lower : am_Y := (yX10_lower, cX10_lower, 1, (some .long), 1, 22)
theorem yo_X10_lower : am_Yok d_X10_lower 0 := ⟨List.mem_of_getElem? (i := 937) (by decide +kernel), List.mem_of_getElem? (i := 72) (by decide +kernel), by decide +kernel, ⟨by decide +kernel, by decide +kernel⟩, by decide +kernel⟩
theorem ys_X10_lower : am_VM d_X10_lower := ⟨List.mem_of_getElem? (i := 935) (by decide +kernel), List.mem_of_getElem? (i := 936) (by decide +kernel)⟩
abbrev d_X10_makeRow : am_Y := (yX10_makeRow, cX10_makeRow, 4, (some .int), 2, 45)
theorem yo_X10_makeRow : am_Yok d_X10_makeRow 3 := ⟨List.mem_of_getElem? (i := 356) (by decide +kernel), List.mem_of_getElem? (i := 72) (by decide +kernel), by decide +kernel, ⟨by decide +kernel, by decide +kernel⟩, by decide +kernel⟩
theorem ys_X10_makeRow : am_VM d_X10_makeRow := ⟨List.mem_of_getElem? (i := 355) (by decide +kernel), List.mem_of_getElem? (i := 0) (by decide +kernel)⟩
abbrev d_X10_mark : am_Y := (yX10_mark, cX10_mark, 5, (some .int), 2, 43)
theorem yo_X10_mark : am_Yok d_X10_mark 2 := ⟨List.mem_of_getElem? (i := 504) (by decide +kernel), List.mem_of_getElem? (i := 72) (by decide +kernel), by decide +kernel, ⟨by decide +kernel, by decide +kernel⟩, by decide +kernel⟩
theorem ys_X10_mark : am_VM d_X10_mark := ⟨List.mem_of_getElem? (i := 502) (by decide +kernel), List.mem_of_getElem? (i := 503) (by decide +kernel)⟩
abbrev d_X10_mean : am_Y := (yX10_mean, cX10_mean, 4, (some .int), 2, 44)
theorem yo_X10_mean : am_Yok d_X10_mean 1 := ⟨List.mem_of_getElem? (i := 412) (by decide +kernel), List.mem_of_getElem? (i := 72) (by decide +kernel), by decide +kernel, ⟨by decide +kernel, by decide +kernel⟩, by decide +kernel⟩
theorem ys_X10_mean : am_VM d_X10_mean := ⟨List.mem_of_getElem? (i := 410) (by decide +kernel), List.mem_of_getElem? (i := 411) (by decide +kernel)⟩
abbrev d_X10_mirror : am_Y := (yX10_mirror, cX10_mirror, 6, (some .int), 3, 62)
theorem yo_X10_mirror : am_Yok d_X10_mirror 2 := ⟨List.mem_of_getElem? (i := 896) (by decide +kernel), List.mem_of_getElem? (i := 72) (by decide +kernel), by decide +kernel, ⟨by decide +kernel, by decide +kernel⟩, by decide +kernel⟩
theorem ys_X10_mirror : am_VM d_X10_mirror := ⟨List.mem_of_getElem? (i := 894) (by decide +kernel), List.mem_of_getElem? (i := 895) (by decide +kernel)⟩
abbrev d_X10_mixed : am_Y := (yX10_mixed, cX10_mixed, 2, (some .int), 3, 69)
theorem yo_X10_mixed : am_Yok d_X10_mixed 0 := ⟨List.mem_of_getElem? (i := 836) (by decide +kernel), List.mem_of_getElem? (i := 72) (by decide +kernel), by decide +kernel, ⟨by decide +kernel, by decide +kernel⟩, by decide +kernel⟩
theorem ys_X10_mixed : am_VM d_X10_mixed := ⟨List.mem_of_getElem? (i := 834) (by decide +kernel), List.mem_of_getElem? (i := 835) (by decide +kernel)⟩
abbrev d_X10_most : am_Y := (yX10_most, cX10_most, 4, (some .int), 5, 117)
theorem yo_X10_most : am_Yok d_X10_most 1 := ⟨List.mem_of_getElem? (i := 815) (by decide +kernel), List.mem_of_getElem? (i := 72) (by decide +kernel), by decide +kernel, ⟨by decide +kernel, by decide +kernel⟩, by decide +kernel⟩
theorem ys_X10_most : am_VM d_X10_most := ⟨List.mem_of_getElem? (i := 813) (by decide +kernel), List.mem_of_getElem? (i := 814) (by decide +kernel)⟩
abbrev d_X10_needs : am_Y := (yX10_needs, cX10_needs, 5, (some .int), 5, 112)
theorem yo_X10_needs : am_Yok d_X10_needs 1 := ⟨List.mem_of_getElem? (i := 694) (by decide +kernel), List.mem_of_getElem? (i := 72) (by decide +kernel), by decide +kernel, ⟨by decide +kernel, by decide +kernel⟩, by decide +kernel⟩
theorem ys_X10_needs : am_VM d_X10_needs := ⟨List.mem_of_getElem? (i := 692) (by decide +kernel), List.mem_of_getElem? (i := 693) (by decide +kernel)⟩
abbrev d_X10_night : am_Y := (yX10_night, cX10_night, 3, (some .int), 3, 86)
theorem yo_X10_night : am_Yok d_X10_night 0 := ⟨List.mem_of_getElem? (i := 589) (by decide +kernel), List.mem_of_getElem? (i := 72) (by decide +kernel), by decide +kernel, ⟨by decide +kernel, by decide +kernel⟩, by decide +kernel⟩
theorem ys_X10_night : am_VM d_X10_night := ⟨List.mem_of_getElem? (i := 587) (by decide +kernel), List.mem_of_getElem? (i := 588) (by decide +kernel)⟩
abbrev d_X10_on : am_Y := (yX10_on, cX10_on, 2, (some .int), 2, 63)
theorem yo_X10_on : am_Yok d_X10_on 1 := ⟨List.mem_of_getElem? (i := 622) (by decide +kernel), List.mem_of_getElem? (i := 72) (by decide +kernel), by decide +kernel, ⟨by decide +kernel, by decide +kernel⟩, by decide +kernel⟩
theorem ys_X10_on : am_VM d_X10_on := ⟨List.mem_of_getElem? (i := 620) (by decide +kernel), List.mem_of_getElem? (i := 621) (by decide +kernel)⟩
abbrev d_X10_place : am_Y := (yX10_place, cX10_place, 3, (some .int), 2, 45)
theorem yo_X10_place : am_Yok d_X10_place 2 := ⟨List.mem_of_getElem? (i := 524) (by decide +kernel), List.mem_of_getElem? (i := 72) (by decide +kernel), by decide +kernel, ⟨by decide +kernel, by decide +kernel⟩, by decide +kernel⟩
theorem ys_X10_place : am_VM d_X10_place := ⟨List.mem_of_getElem? (i := 522) (by decide +kernel), List.mem_of_getElem? (i := 523) (by decide +kernel)⟩
abbrev d_X10_placeTells : am_Y := (yX10_placeTells, cX10_placeTells, 3, (some .int), 1, 23)
theorem yo_X10_placeTells : am_Yok d_X10_placeTells 2 := ⟨List.mem_of_getElem? (i := 531) (by decide +kernel), List.mem_of_getElem? (i := 72) (by decide +kernel), by decide +kernel, ⟨by decide +kernel, by decide +kernel⟩, by decide +kernel⟩
theorem ys_X10_placeTells : am_VM d_X10_placeTells := ⟨List.mem_of_getElem? (i := 530) (by decide +kernel), List.mem_of_getElem? (i := 16) (by decide +kernel)⟩
