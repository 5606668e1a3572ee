theorem yo_X1_remember : am_Yok d_X1_remember 2 := ⟨List.mem_of_getElem? (i := 551) (by decide +kernel), List.mem_of_getElem? (i := 75) (by decide +kernel), by decide +kernel, ⟨by decide +kernel, by decide +kernel⟩, by decide +kernel⟩
theorem ys_X1_remember : am_VM d_X1_remember := ⟨List.mem_of_getElem? (i := 549) (by decide +kernel), List.mem_of_getElem? (i := 550) (by decide +kernel)⟩
abbrev d_X1_takeBack : am_Y := (yX1_takeBack, cX1_takeBack, 3, (some .int), 2, 63)
theorem yo_X1_takeBack : am_Yok d_X1_takeBack 1 := ⟨List.mem_of_getElem? (i := 609) (by decide +kernel), List.mem_of_getElem? (i := 75) (by decide +kernel), by decide +kernel, ⟨by decide +kernel, by decide +kernel⟩, by decide +kernel⟩
theorem ys_X1_takeBack : am_VM d_X1_takeBack := ⟨List.mem_of_getElem? (i := 607) (by decide +kernel), List.mem_of_getElem? (i := 608) (by decide +kernel)⟩
abbrev d_X2_anHour : am_Y := (yX2_anHour, cX2_anHour, 1, (some .int), 0, 0)
theorem yo_X2_anHour : am_Yok d_X2_anHour 1 := ⟨List.mem_of_getElem? (i := 519) (by decide +kernel), List.mem_of_getElem? (i := 85) (by decide +kernel), by decide +kernel, ⟨by decide +kernel, by decide +kernel⟩, by decide +kernel⟩
theorem ys_X2_anHour : am_SM d_X2_anHour := List.mem_of_getElem? (i := 518) (by decide +kernel)
abbrev d_X2_byLetter : am_Y := (yX2_byLetter, cX2_byLetter, 2, (some .int), 0, 0)
theorem yo_X2_byLetter : am_Yok d_X2_byLetter 1 := ⟨List.mem_of_getElem? (i := 473) (by decide +kernel), List.mem_of_getElem? (i := 85) (by decide +kernel), by decide +kernel, ⟨by decide +kernel, by decide +kernel⟩, by decide +kernel⟩
theorem ys_X2_byLetter : am_SM d_X2_byLetter := List.mem_of_getElem? (i := 472) (by decide +kernel)
abbrev d_X2_comesOver : am_Y := (yX2_comesOver, cX2_comesOver, 1, (some .int), 1, 20)
theorem yo_X2_comesOver : am_Yok d_X2_comesOver 1 := ⟨List.mem_of_getElem? (i := 577) (by decide +kernel), List.mem_of_getElem? (i := 85) (by decide +kernel), by decide +kernel, ⟨by decide +kernel, by decide +kernel⟩, by decide +kernel⟩
theorem ys_X2_comesOver : am_SM d_X2_comesOver := List.mem_of_getElem? (i := 576) (by decide +kernel)
abbrev d_X2_hours : am_Y := (yX2_hours, cX2_hours, 2, (some .int), 1, 20)
theorem yo_X2_hours : am_Yok d_X2_hours 2 := ⟨List.mem_of_getElem? (i := 516) (by decide +kernel), List.mem_of_getElem? (i := 85) (by decide +kernel), by decide +kernel, ⟨by decide +kernel, by decide +kernel⟩, by decide +kernel⟩
theorem ys_X2_hours : am_SM d_X2_hours := List.mem_of_getElem? (i := 515) (by decide +kernel)
abbrev d_X2_is : am_Y := (yX2_is, cX2_is, 2, (some .boolean), 0, 0)
theorem yo_X2_is : am_Yok d_X2_is 2 := ⟨List.mem_of_getElem? (i := 507) (by decide +kernel), List.mem_of_getElem? (i := 85) (by decide +kernel), by decide +kernel, ⟨by decide +kernel, by decide +kernel⟩, by decide +kernel⟩
theorem ys_X2_is : am_SM d_X2_is := List.mem_of_getElem? (i := 506) (by decide +kernel)
abbrev d_X2_leaked : am_Y := (yX2_leaked, cX2_leaked, 3, (some .int), 1, 20)
theorem yo_X2_leaked : am_Yok d_X2_leaked 3 := ⟨List.mem_of_getElem? (i := 510) (by decide +kernel), List.mem_of_getElem? (i := 85) (by decide +kernel), by decide +kernel, ⟨by decide +kernel, by decide +kernel⟩, by decide +kernel⟩
theorem ys_X2_leaked : am_SM d_X2_leaked := List.mem_of_getElem? (i := 509) (by decide +kernel)
abbrev d_X2_leastAheadOfNight : am_Y := (yX2_leastAheadOfNight, cX2_leastAheadOfNight, 1, (some .int), 0, 0)
theorem yo_X2_leastAheadOfNight : am_Yok d_X2_leastAheadOfNight 1 := ⟨List.mem_of_getElem? (i := 706) (by decide +kernel), List.mem_of_getElem? (i := 85) (by decide +kernel), by decide +kernel, ⟨by decide +kernel, by decide +kernel⟩, by decide +kernel⟩
theorem ys_X2_leastAheadOfNight : am_SM d_X2_leastAheadOfNight := List.mem_of_getElem? (i := 705) (by decide +kernel)
abbrev d_X2_taken : am_Y := (yX2_taken, cX2_taken, 2, (some .int), 1, 21)
theorem yo_X2_taken : am_Yok d_X2_taken 2 := ⟨List.mem_of_getElem? (i := 571) (by decide +kernel), List.mem_of_getElem? (i := 85) (by decide +kernel), by decide +kernel, ⟨by decide +kernel, by decide +kernel⟩, by decide +kernel⟩
theorem ys_X2_taken : am_SM d_X2_taken := List.mem_of_getElem? (i := 570) (by decide +kernel)
abbrev d_X2_tenthsUp : am_Y := (yX2_tenthsUp, cX2_tenthsUp, 1, (some .int), 0, 0)
theorem yo_X2_tenthsUp : am_Yok d_X2_tenthsUp 1 := ⟨List.mem_of_getElem? (i := 513) (by decide +kernel), List.mem_of_getElem? (i := 85) (by decide +kernel), by decide +kernel, ⟨by decide +kernel, by decide +kernel⟩, by decide +kernel⟩
theorem ys_X2_tenthsUp : am_SM d_X2_tenthsUp := List.mem_of_getElem? (i := 512) (by decide +kernel)
abbrev d_X3_addValley : am_Y := (yX3_addValley, cX3_addValley, 4, none, 1, 21)
theorem yo_X3_addValley : am_Yok d_X3_addValley 1 := ⟨List.mem_of_getElem? (i := 675) (by decide +kernel), List.mem_of_getElem? (i := 79) (by decide +kernel), by decide +kernel, ⟨by decide +kernel, by decide +kernel⟩, by decide +kernel⟩
theorem ys_X3_addValley : am_VM d_X3_addValley := ⟨List.mem_of_getElem? (i := 674) (by decide +kernel), List.mem_of_getElem? (i := 22) (by decide +kernel)⟩
abbrev d_X3_choose : am_Y := (yX3_choose, cX3_choose, 4, none, 6, 138)
theorem yo_X3_choose : am_Yok d_X3_choose 1 := ⟨List.mem_of_getElem? (i := 650) (by decide +kernel), List.mem_of_getElem? (i := 79) (by decide +kernel), by decide +kernel, ⟨by decide +kernel, by decide +kernel⟩, by decide +kernel⟩
theorem ys_X3_choose : am_VM d_X3_choose := ⟨List.mem_of_getElem? (i := 648) (by decide +kernel), List.mem_of_getElem? (i := 649) (by decide +kernel)⟩
abbrev d_X3_figures : am_Y := (yX3_figures, cX3_figures, 1, (some .int), 1, 22)
theorem yo_X3_figures : am_Yok d_X3_figures 0 := ⟨List.mem_of_getElem? (i := 687) (by decide +kernel), List.mem_of_getElem? (i := 79) (by decide +kernel), by decide +kernel, ⟨by decide +kernel, by decide +kernel⟩, by decide +kernel⟩
theorem ys_X3_figures : am_VM d_X3_figures := ⟨List.mem_of_getElem? (i := 685) (by decide +kernel), List.mem_of_getElem? (i := 686) (by decide +kernel)⟩
abbrev d_X3_figuresOf : am_Y := (yX3_figuresOf, cX3_figuresOf, 5, (some .int), 0, 0)
theorem yo_X3_figuresOf : am_Yok d_X3_figuresOf 3 := ⟨List.mem_of_getElem? (i := 670) (by decide +kernel), List.mem_of_getElem? (i := 79) (by decide +kernel), by decide +kernel, ⟨by decide +kernel, by decide +kernel⟩, by decide +kernel⟩
theorem ys_X3_figuresOf : am_SM d_X3_figuresOf := List.mem_of_getElem? (i := 669) (by decide +kernel)
abbrev d_X3_init : am_Y := (yX3_init, cX3_init, 1, none, 1, 40)
theorem yo_X3_init : am_Yok d_X3_init 0 := ⟨List.mem_of_getElem? (i := 224) (by decide +kernel), List.mem_of_getElem? (i := 79) (by decide +kernel), by decide +kernel, ⟨by decide +kernel, by decide +kernel⟩, by decide +kernel⟩
theorem ys_X3_init : am_IM d_X3_init := List.mem_of_getElem? (i := 223) (by decide +kernel)
abbrev d_X3_litValleys : am_Y := (yX3_litValleys, cX3_litValleys, 1, (some .int), 1, 22)
theorem yo_X3_litValleys : am_Yok d_X3_litValleys 0 := ⟨List.mem_of_getElem? (i := 680) (by decide +kernel), List.mem_of_getElem? (i := 79) (by decide +kernel), by decide +kernel, ⟨by decide +kernel, by decide +kernel⟩, by decide +kernel⟩
theorem ys_X3_litValleys : am_VM d_X3_litValleys := ⟨List.mem_of_getElem? (i := 678) (by decide +kernel), List.mem_of_getElem? (i := 679) (by decide +kernel)⟩
abbrev d_X3_priceLighting : am_Y := (yX3_priceLighting, cX3_priceLighting, 7, none, 5, 112)
theorem yo_X3_priceLighting : am_Yok d_X3_priceLighting 3 := ⟨List.mem_of_getElem? (i := 656) (by decide +kernel), List.mem_of_getElem? (i := 79) (by decide +kernel), by decide +kernel, ⟨by decide +kernel, by decide +kernel⟩, by decide +kernel⟩
theorem ys_X3_priceLighting : am_VM d_X3_priceLighting := ⟨List.mem_of_getElem? (i := 655) (by decide +kernel), List.mem_of_getElem? (i := 21) (by decide +kernel)⟩
abbrev d_X4_init : am_Y := (yX4_init, cX4_init, 2, none, 1, 40)
theorem yo_X4_init : am_Yok d_X4_init 1 := ⟨List.mem_of_getElem? (i := 166) (by decide +kernel), List.mem_of_getElem? (i := 76) (by decide +kernel), by decide +kernel, ⟨by decide +kernel, by decide +kernel⟩, by decide +kernel⟩
theorem ys_X4_init : am_IM d_X4_init := List.mem_of_getElem? (i := 165) (by decide +kernel)
abbrev d_X4_isSlot : am_Y := (yX4_isSlot, cX4_isSlot, 2, (some .boolean), 0, 0)
theorem yo_X4_isSlot : am_Yok d_X4_isSlot 1 := ⟨List.mem_of_getElem? (i := 559) (by decide +kernel), List.mem_of_getElem? (i := 76) (by decide +kernel), by decide +kernel, ⟨by decide +kernel, by decide +kernel⟩, by decide +kernel⟩
theorem ys_X4_isSlot : am_VM d_X4_isSlot := ⟨List.mem_of_getElem? (i := 558) (by decide +kernel), List.mem_of_getElem? (i := 18) (by decide +kernel)⟩
abbrev d_X4_recall : am_Y := (yX4_recall, cX4_recall, 4, none, 1, 40)
theorem yo_X4_recall : am_Yok d_X4_recall 2 := ⟨List.mem_of_getElem? (i := 613) (by decide +kernel), List.mem_of_getElem? (i := 76) (by decide +kernel), by decide +kernel, ⟨by decide +kernel, by decide +kernel⟩, by decide +kernel⟩
theorem ys_X4_recall : am_VM d_X4_recall := ⟨List.mem_of_getElem? (i := 611) (by decide +kernel), List.mem_of_getElem? (i := 612) (by decide +kernel)⟩
abbrev d_X4_save : am_Y := (yX4_save, cX4_save, 4, none, 1, 40)
theorem yo_X4_save : am_Yok d_X4_save 2 := ⟨List.mem_of_getElem? (i := 555) (by decide +kernel), List.mem_of_getElem? (i := 76) (by decide +kernel), by decide +kernel, ⟨by decide +kernel, by decide +kernel⟩, by decide +kernel⟩
theorem ys_X4_save : am_VM d_X4_save := ⟨List.mem_of_getElem? (i := 553) (by decide +kernel), List.mem_of_getElem? (i := 554) (by decide +kernel)⟩
abbrev d_X5_allSizes : am_Y := (yX5_allSizes, cX5_allSizes, 3, (some .int), 0, 0)
theorem yo_X5_allSizes : am_Yok d_X5_allSizes 0 := ⟨List.mem_of_getElem? (i := 930) (by decide +kernel), List.mem_of_getElem? (i := 80) (by decide +kernel), by decide +kernel, ⟨by decide +kernel, by decide +kernel⟩, by decide +kernel⟩
theorem ys_X5_allSizes : am_VM d_X5_allSizes := ⟨List.mem_of_getElem? (i := 928) (by decide +kernel), List.mem_of_getElem? (i := 929) (by decide +kernel)⟩
abbrev d_X5_countOf : am_Y := (yX5_countOf, cX5_countOf, 4, (some .int), 1, 21)
theorem yo_X5_countOf : am_Yok d_X5_countOf 1 := ⟨List.mem_of_getElem? (i := 945) (by decide +kernel), List.mem_of_getElem? (i := 80) (by decide +kernel), by decide +kernel, ⟨by decide +kernel, by decide +kernel⟩, by decide +kernel⟩
theorem ys_X5_countOf : am_VM d_X5_countOf := ⟨List.mem_of_getElem? (i := 943) (by decide +kernel), List.mem_of_getElem? (i := 944) (by decide +kernel)⟩
abbrev d_X5_hoursBrought : am_Y := (yX5_hoursBrought, cX5_hoursBrought, 3, (some .int), 3, 66)
theorem yo_X5_hoursBrought : am_Yok d_X5_hoursBrought 2 := ⟨List.mem_of_getElem? (i := 636) (by decide +kernel), List.mem_of_getElem? (i := 80) (by decide +kernel), by decide +kernel, ⟨by decide +kernel, by decide +kernel⟩, by decide +kernel⟩
theorem ys_X5_hoursBrought : am_VM d_X5_hoursBrought := ⟨List.mem_of_getElem? (i := 634) (by decide +kernel), List.mem_of_getElem? (i := 635) (by decide +kernel)⟩
abbrev d_X5_hoursOfSet : am_Y := (yX5_hoursOfSet, cX5_hoursOfSet, 5, (some .int), 4, 88)
theorem yo_X5_hoursOfSet : am_Yok d_X5_hoursOfSet 2 := ⟨List.mem_of_getElem? (i := 660) (by decide +kernel), List.mem_of_getElem? (i := 80) (by decide +kernel), by decide +kernel, ⟨by decide +kernel, by decide +kernel⟩, by decide +kernel⟩
theorem ys_X5_hoursOfSet : am_VM d_X5_hoursOfSet := ⟨List.mem_of_getElem? (i := 658) (by decide +kernel), List.mem_of_getElem? (i := 659) (by decide +kernel)⟩
abbrev d_X5_init : am_Y := (yX5_init, cX5_init, 1, none, 1, 40)
theorem yo_X5_init : am_Yok d_X5_init 0 := ⟨List.mem_of_getElem? (i := 240) (by decide +kernel), List.mem_of_getElem? (i := 80) (by decide +kernel), by decide +kernel, ⟨by decide +kernel, by decide +kernel⟩, by decide +kernel⟩
theorem ys_X5_init : am_IM d_X5_init := List.mem_of_getElem? (i := 239) (by decide +kernel)
abbrev d_X5_isBright : am_Y := (yX5_isBright, cX5_isBright, 2, (some .boolean), 0, 0)
theorem yo_X5_isBright : am_Yok d_X5_isBright 1 := ⟨List.mem_of_getElem? (i := 543) (by decide +kernel), List.mem_of_getElem? (i := 80) (by decide +kernel), by decide +kernel, ⟨by decide +kernel, by decide +kernel⟩, by decide +kernel⟩
theorem ys_X5_isBright : am_VM d_X5_isBright := ⟨List.mem_of_getElem? (i := 541) (by decide +kernel), List.mem_of_getElem? (i := 542) (by decide +kernel)⟩
abbrev d_X5_lightBrought : am_Y := (yX5_lightBrought, cX5_lightBrought, 5, (some .int), 2, 42)
theorem yo_X5_lightBrought : am_Yok d_X5_lightBrought 2 := ⟨List.mem_of_getElem? (i := 631) (by decide +kernel), List.mem_of_getElem? (i := 80) (by decide +kernel), by decide +kernel, ⟨by decide +kernel, by decide +kernel⟩, by decide +kernel⟩
theorem ys_X5_lightBrought : am_VM d_X5_lightBrought := ⟨List.mem_of_getElem? (i := 629) (by decide +kernel), List.mem_of_getElem? (i := 630) (by decide +kernel)⟩
abbrev d_X6_comeTo : am_Y := (yX6_comeTo, cX6_comeTo, 4, none, 1, 22)
theorem yo_X6_comeTo : am_Yok d_X6_comeTo 3 := ⟨List.mem_of_getElem? (i := 764) (by decide +kernel), List.mem_of_getElem? (i := 87) (by decide +kernel), by decide +kernel, ⟨by decide +kernel, by decide +kernel⟩, by decide +kernel⟩
theorem ys_X6_comeTo : am_VM d_X6_comeTo := ⟨List.mem_of_getElem? (i := 763) (by decide +kernel), List.mem_of_getElem? (i := 26) (by decide +kernel)⟩
abbrev d_X6_explore : am_Y := (yX6_explore, cX6_explore, 5, none, 3, 72)
theorem yo_X6_explore : am_Yok d_X6_explore 3 := ⟨List.mem_of_getElem? (i := 754) (by decide +kernel), List.mem_of_getElem? (i := 87) (by decide +kernel), by decide +kernel, ⟨by decide +kernel, by decide +kernel⟩, by decide +kernel⟩
theorem ys_X6_explore : am_VM d_X6_explore := ⟨List.mem_of_getElem? (i := 752) (by decide +kernel), List.mem_of_getElem? (i := 753) (by decide +kernel)⟩
abbrev d_X6_firstWith : am_Y := (yX6_firstWith, cX6_firstWith, 5, (some .int), 1, 22)
theorem yo_X6_firstWith : am_Yok d_X6_firstWith 2 := ⟨List.mem_of_getElem? (i := 778) (by decide +kernel), List.mem_of_getElem? (i := 87) (by decide +kernel), by decide +kernel, ⟨by decide +kernel, by decide +kernel⟩, by decide +kernel⟩
theorem ys_X6_firstWith : am_VM d_X6_firstWith := ⟨List.mem_of_getElem? (i := 776) (by decide +kernel), List.mem_of_getElem? (i := 777) (by decide +kernel)⟩
abbrev d_X6_gather : am_Y := (yX6_gather, cX6_gather, 6, (some .int), 0, 0)
theorem yo_X6_gather : am_Yok d_X6_gather 3 := ⟨List.mem_of_getElem? (i := 758) (by decide +kernel), List.mem_of_getElem? (i := 87) (by decide +kernel), by decide +kernel, ⟨by decide +kernel, by decide +kernel⟩, by decide +kernel⟩
theorem ys_X6_gather : am_VM d_X6_gather := ⟨List.mem_of_getElem? (i := 757) (by decide +kernel), List.mem_of_getElem? (i := 25) (by decide +kernel)⟩
abbrev d_X6_held : am_Y := (yX6_held, cX6_held, 2, (some .int), 0, 0)
theorem yo_X6_held : am_Yok d_X6_held 2 := ⟨List.mem_of_getElem? (i := 772) (by decide +kernel), List.mem_of_getElem? (i := 87) (by decide +kernel), by decide +kernel, ⟨by decide +kernel, by decide +kernel⟩, by decide +kernel⟩
theorem ys_X6_held : am_SM d_X6_held := List.mem_of_getElem? (i := 771) (by decide +kernel)
abbrev d_X6_init : am_Y := (yX6_init, cX6_init, 1, none, 1, 40)
theorem yo_X6_init : am_Yok d_X6_init 0 := ⟨List.mem_of_getElem? (i := 723) (by decide +kernel), List.mem_of_getElem? (i := 87) (by decide +kernel), by decide +kernel, ⟨by decide +kernel, by decide +kernel⟩, by decide +kernel⟩
theorem ys_X6_init : am_IM d_X6_init := List.mem_of_getElem? (i := 722) (by decide +kernel)
abbrev d_X6_leastSpilt : am_Y := (yX6_leastSpilt, cX6_leastSpilt, 6, (some .int), 3, 62)
theorem yo_X6_leastSpilt : am_Yok d_X6_leastSpilt 2 := ⟨List.mem_of_getElem? (i := 810) (by decide +kernel), List.mem_of_getElem? (i := 87) (by decide +kernel), by decide +kernel, ⟨by decide +kernel, by decide +kernel⟩, by decide +kernel⟩
theorem ys_X6_leastSpilt : am_VM d_X6_leastSpilt := ⟨List.mem_of_getElem? (i := 808) (by decide +kernel), List.mem_of_getElem? (i := 809) (by decide +kernel)⟩
abbrev d_X6_mostIn : am_Y := (yX6_mostIn, cX6_mostIn, 5, (some .int), 1, 22)
theorem yo_X6_mostIn : am_Yok d_X6_mostIn 1 := ⟨List.mem_of_getElem? (i := 819) (by decide +kernel), List.mem_of_getElem? (i := 87) (by decide +kernel), by decide +kernel, ⟨by decide +kernel, by decide +kernel⟩, by decide +kernel⟩
theorem ys_X6_mostIn : am_VM d_X6_mostIn := ⟨List.mem_of_getElem? (i := 817) (by decide +kernel), List.mem_of_getElem? (i := 818) (by decide +kernel)⟩
abbrev d_X6_pourFrom : am_Y := (yX6_pourFrom, cX6_pourFrom, 8, none, 2, 45)
theorem yo_X6_pourFrom : am_Yok d_X6_pourFrom 1 := ⟨List.mem_of_getElem? (i := 769) (by decide +kernel), List.mem_of_getElem? (i := 87) (by decide +kernel), by decide +kernel, ⟨by decide +kernel, by decide +kernel⟩, by decide +kernel⟩
theorem ys_X6_pourFrom : am_VM d_X6_pourFrom := ⟨List.mem_of_getElem? (i := 768) (by decide +kernel), List.mem_of_getElem? (i := 27) (by decide +kernel)⟩
abbrev d_X6_slotOf : am_Y := (yX6_slotOf, cX6_slotOf, 3, (some .int), 0, 0)
theorem yo_X6_slotOf : am_Yok d_X6_slotOf 1 := ⟨List.mem_of_getElem? (i := 782) (by decide +kernel), List.mem_of_getElem? (i := 87) (by decide +kernel), by decide +kernel, ⟨by decide +kernel, by decide +kernel⟩, by decide +kernel⟩
theorem ys_X6_slotOf : am_VM d_X6_slotOf := ⟨List.mem_of_getElem? (i := 781) (by decide +kernel), List.mem_of_getElem? (i := 28) (by decide +kernel)⟩
abbrev d_X6_spilt : am_Y := (yX6_spilt, cX6_spilt, 2, (some .int), 2, 41)
theorem yo_X6_spilt : am_Yok d_X6_spilt 1 := ⟨List.mem_of_getElem? (i := 790) (by decide +kernel), List.mem_of_getElem? (i := 87) (by decide +kernel), by decide +kernel, ⟨by decide +kernel, by decide +kernel⟩, by decide +kernel⟩
theorem ys_X6_spilt : am_VM d_X6_spilt := ⟨List.mem_of_getElem? (i := 788) (by decide +kernel), List.mem_of_getElem? (i := 789) (by decide +kernel)⟩
abbrev d_X6_steps : am_Y := (yX6_steps, cX6_steps, 4, (some .int), 0, 0)
theorem yo_X6_steps : am_Yok d_X6_steps 1 := ⟨List.mem_of_getElem? (i := 786) (by decide +kernel), List.mem_of_getElem? (i := 87) (by decide +kernel), by decide +kernel, ⟨by decide +kernel, by decide +kernel⟩, by decide +kernel⟩
theorem ys_X6_steps : am_VM d_X6_steps := ⟨List.mem_of_getElem? (i := 784) (by decide +kernel), List.mem_of_getElem? (i := 785) (by decide +kernel)⟩
abbrev d_X6_total : am_Y := (yX6_total, cX6_total, 1, (some .int), 1, 21)
theorem yo_X6_total : am_Yok d_X6_total 1 := ⟨List.mem_of_getElem? (i := 793) (by decide +kernel), List.mem_of_getElem? (i := 87) (by decide +kernel), by decide +kernel, ⟨by decide +kernel, by decide +kernel⟩, by decide +kernel⟩
theorem ys_X6_total : am_SM d_X6_total := List.mem_of_getElem? (i := 792) (by decide +kernel)
abbrev d_X6_writeWay : am_Y := (yX6_writeWay, cX6_writeWay, 6, none, 2, 45)
theorem yo_X6_writeWay : am_Yok d_X6_writeWay 3 := ⟨List.mem_of_getElem? (i := 801) (by decide +kernel), List.mem_of_getElem? (i := 87) (by decide +kernel), by decide +kernel, ⟨by decide +kernel, by decide +kernel⟩, by decide +kernel⟩
theorem ys_X6_writeWay : am_VM d_X6_writeWay := ⟨List.mem_of_getElem? (i := 799) (by decide +kernel), List.mem_of_getElem? (i := 800) (by decide +kernel)⟩
abbrev d_X7_figure : am_Y := (yX7_figure, cX7_figure, 1, (some .int), 2, 41)
theorem yo_X7_figure : am_Yok d_X7_figure 0 := ⟨List.mem_of_getElem? (i := 453) (by decide +kernel), List.mem_of_getElem? (i := 73) (by decide +kernel), by decide +kernel, ⟨by decide +kernel, by decide +kernel⟩, by decide +kernel⟩
theorem ys_X7_figure : am_VM d_X7_figure := ⟨List.mem_of_getElem? (i := 452) (by decide +kernel), List.mem_of_getElem? (i := 9) (by decide +kernel)⟩
abbrev d_X7_init : am_Y := (yX7_init, cX7_init, 1, none, 1, 40)
theorem yo_X7_init : am_Yok d_X7_init 0 := ⟨List.mem_of_getElem? (i := 102) (by decide +kernel), List.mem_of_getElem? (i := 73) (by decide +kernel), by decide +kernel, ⟨by decide +kernel, by decide +kernel⟩, by decide +kernel⟩
theorem ys_X7_init : am_IM d_X7_init := List.mem_of_getElem? (i := 101) (by decide +kernel)
abbrev d_X7_read : am_Y := (yX7_read, cX7_read, 4, (some .int), 5, 107)
theorem yo_X7_read : am_Yok d_X7_read 2 := ⟨List.mem_of_getElem? (i := 432) (by decide +kernel), List.mem_of_getElem? (i := 73) (by decide +kernel), by decide +kernel, ⟨by decide +kernel, by decide +kernel⟩, by decide +kernel⟩
theorem ys_X7_read : am_VM d_X7_read := ⟨List.mem_of_getElem? (i := 430) (by decide +kernel), List.mem_of_getElem? (i := 431) (by decide +kernel)⟩
abbrev d_X7_readJar : am_Y := (yX7_readJar, cX7_readJar, 5, (some .boolean), 3, 61)
theorem yo_X7_readJar : am_Yok d_X7_readJar 2 := ⟨List.mem_of_getElem? (i := 470) (by decide +kernel), List.mem_of_getElem? (i := 73) (by decide +kernel), by decide +kernel, ⟨by decide +kernel, by decide +kernel⟩, by decide +kernel⟩
theorem ys_X7_readJar : am_VM d_X7_readJar := ⟨List.mem_of_getElem? (i := 469) (by decide +kernel), List.mem_of_getElem? (i := 13) (by decide +kernel)⟩
abbrev d_X7_readJars : am_Y := (yX7_readJars, cX7_readJars, 3, (some .boolean), 4, 85)
theorem yo_X7_readJars : am_Yok d_X7_readJars 1 := ⟨List.mem_of_getElem? (i := 466) (by decide +kernel), List.mem_of_getElem? (i := 73) (by decide +kernel), by decide +kernel, ⟨by decide +kernel, by decide +kernel⟩, by decide +kernel⟩
theorem ys_X7_readJars : am_VM d_X7_readJars := ⟨List.mem_of_getElem? (i := 465) (by decide +kernel), List.mem_of_getElem? (i := 12) (by decide +kernel)⟩
abbrev d_X7_readLetter : am_Y := (yX7_readLetter, cX7_readLetter, 2, (some .boolean), 3, 61)
theorem yo_X7_readLetter : am_Yok d_X7_readLetter 1 := ⟨List.mem_of_getElem? (i := 440) (by decide +kernel), List.mem_of_getElem? (i := 73) (by decide +kernel), by decide +kernel, ⟨by decide +kernel, by decide +kernel⟩, by decide +kernel⟩
theorem ys_X7_readLetter : am_VM d_X7_readLetter := ⟨List.mem_of_getElem? (i := 439) (by decide +kernel), List.mem_of_getElem? (i := 6) (by decide +kernel)⟩
abbrev d_X7_readMules : am_Y := (yX7_readMules, cX7_readMules, 2, (some .boolean), 4, 82)
theorem yo_X7_readMules : am_Yok d_X7_readMules 1 := ⟨List.mem_of_getElem? (i := 436) (by decide +kernel), List.mem_of_getElem? (i := 73) (by decide +kernel), by decide +kernel, ⟨by decide +kernel, by decide +kernel⟩, by decide +kernel⟩
theorem ys_X7_readMules : am_VM d_X7_readMules := ⟨List.mem_of_getElem? (i := 435) (by decide +kernel), List.mem_of_getElem? (i := 5) (by decide +kernel)⟩
abbrev d_X7_readNeeds : am_Y := (yX7_readNeeds, cX7_readNeeds, 3, (some .boolean), 4, 82)
theorem yo_X7_readNeeds : am_Yok d_X7_readNeeds 1 := ⟨List.mem_of_getElem? (i := 462) (by decide +kernel), List.mem_of_getElem? (i := 73) (by decide +kernel), by decide +kernel, ⟨by decide +kernel, by decide +kernel⟩, by decide +kernel⟩
theorem ys_X7_readNeeds : am_VM d_X7_readNeeds := ⟨List.mem_of_getElem? (i := 461) (by decide +kernel), List.mem_of_getElem? (i := 11) (by decide +kernel)⟩
abbrev d_X7_readSuns : am_Y := (yX7_readSuns, cX7_readSuns, 2, (some .boolean), 4, 82)
theorem yo_X7_readSuns : am_Yok d_X7_readSuns 1 := ⟨List.mem_of_getElem? (i := 458) (by decide +kernel), List.mem_of_getElem? (i := 73) (by decide +kernel), by decide +kernel, ⟨by decide +kernel, by decide +kernel⟩, by decide +kernel⟩
theorem ys_X7_readSuns : am_VM d_X7_readSuns := ⟨List.mem_of_getElem? (i := 457) (by decide +kernel), List.mem_of_getElem? (i := 10) (by decide +kernel)⟩
abbrev d_X7_sign : am_Y := (yX7_sign, cX7_sign, 1, (some .int), 1, 21)
theorem yo_X7_sign : am_Yok d_X7_sign 0 := ⟨List.mem_of_getElem? (i := 448) (by decide +kernel), List.mem_of_getElem? (i := 73) (by decide +kernel), by decide +kernel, ⟨by decide +kernel, by decide +kernel⟩, by decide +kernel⟩
theorem ys_X7_sign : am_VM d_X7_sign := ⟨List.mem_of_getElem? (i := 447) (by decide +kernel), List.mem_of_getElem? (i := 8) (by decide +kernel)⟩
abbrev d_X7_skipBlanks : am_Y := (yX7_skipBlanks, cX7_skipBlanks, 1, none, 2, 41)
theorem yo_X7_skipBlanks : am_Yok d_X7_skipBlanks 0 := ⟨List.mem_of_getElem? (i := 444) (by decide +kernel), List.mem_of_getElem? (i := 73) (by decide +kernel), by decide +kernel, ⟨by decide +kernel, by decide +kernel⟩, by decide +kernel⟩
theorem ys_X7_skipBlanks : am_VM d_X7_skipBlanks := ⟨List.mem_of_getElem? (i := 443) (by decide +kernel), List.mem_of_getElem? (i := 7) (by decide +kernel)⟩
abbrev d_X8_has : am_Y := (yX8_has, cX8_has, 2, (some .boolean), 0, 0)
theorem yo_X8_has : am_Yok d_X8_has 1 := ⟨List.mem_of_getElem? (i := 385) (by decide +kernel), List.mem_of_getElem? (i := 81) (by decide +kernel), by decide +kernel, ⟨by decide +kernel, by decide +kernel⟩, by decide +kernel⟩
theorem ys_X8_has : am_VM d_X8_has := ⟨List.mem_of_getElem? (i := 383) (by decide +kernel), List.mem_of_getElem? (i := 384) (by decide +kernel)⟩
abbrev d_X8_hasFrom : am_Y := (yX8_hasFrom, cX8_hasFrom, 3, (some .boolean), 0, 0)
theorem yo_X8_hasFrom : am_Yok d_X8_hasFrom 2 := ⟨List.mem_of_getElem? (i := 405) (by decide +kernel), List.mem_of_getElem? (i := 81) (by decide +kernel), by decide +kernel, ⟨by decide +kernel, by decide +kernel⟩, by decide +kernel⟩
theorem ys_X8_hasFrom : am_VM d_X8_hasFrom := ⟨List.mem_of_getElem? (i := 403) (by decide +kernel), List.mem_of_getElem? (i := 404) (by decide +kernel)⟩
abbrev d_X8_init : am_Y := (yX8_init, cX8_init, 1, none, 1, 40)
theorem yo_X8_init : am_Yok d_X8_init 0 := ⟨List.mem_of_getElem? (i := 284) (by decide +kernel), List.mem_of_getElem? (i := 81) (by decide +kernel), by decide +kernel, ⟨by decide +kernel, by decide +kernel⟩, by decide +kernel⟩
theorem ys_X8_init : am_IM d_X8_init := List.mem_of_getElem? (i := 283) (by decide +kernel)
abbrev d_X8_isAllWithin : am_Y := (yX8_isAllWithin, cX8_isAllWithin, 4, (some .boolean), 1, 22)
theorem yo_X8_isAllWithin : am_Yok d_X8_isAllWithin 2 := ⟨List.mem_of_getElem? (i := 883) (by decide +kernel), List.mem_of_getElem? (i := 81) (by decide +kernel), by decide +kernel, ⟨by decide +kernel, by decide +kernel⟩, by decide +kernel⟩
theorem ys_X8_isAllWithin : am_VM d_X8_isAllWithin := ⟨List.mem_of_getElem? (i := 881) (by decide +kernel), List.mem_of_getElem? (i := 882) (by decide +kernel)⟩
abbrev d_X8_isThere : am_Y := (yX8_isThere, cX8_isThere, 1, (some .boolean), 0, 0)
theorem yo_X8_isThere : am_Yok d_X8_isThere 0 := ⟨List.mem_of_getElem? (i := 381) (by decide +kernel), List.mem_of_getElem? (i := 81) (by decide +kernel), by decide +kernel, ⟨by decide +kernel, by decide +kernel⟩, by decide +kernel⟩
theorem ys_X8_isThere : am_VM d_X8_isThere := ⟨List.mem_of_getElem? (i := 379) (by decide +kernel), List.mem_of_getElem? (i := 380) (by decide +kernel)⟩
abbrev d_X8_makeAnew : am_Y := (yX8_makeAnew, cX8_makeAnew, 3, none, 1, 23)
theorem yo_X8_makeAnew : am_Yok d_X8_makeAnew 2 := ⟨List.mem_of_getElem? (i := 364) (by decide +kernel), List.mem_of_getElem? (i := 81) (by decide +kernel), by decide +kernel, ⟨by decide +kernel, by decide +kernel⟩, by decide +kernel⟩
theorem ys_X8_makeAnew : am_VM d_X8_makeAnew := ⟨List.mem_of_getElem? (i := 362) (by decide +kernel), List.mem_of_getElem? (i := 363) (by decide +kernel)⟩
abbrev d_X8_sum : am_Y := (yX8_sum, cX8_sum, 4, (some .long), 0, 0)
theorem yo_X8_sum : am_Yok d_X8_sum 0 := ⟨List.mem_of_getElem? (i := 416) (by decide +kernel), List.mem_of_getElem? (i := 81) (by decide +kernel), by decide +kernel, ⟨by decide +kernel, by decide +kernel⟩, by decide +kernel⟩
theorem ys_X8_sum : am_VM d_X8_sum := ⟨List.mem_of_getElem? (i := 414) (by decide +kernel), List.mem_of_getElem? (i := 415) (by decide +kernel)⟩
abbrev d_X9_clear : am_Y := (yX9_clear, cX9_clear, 1, none, 1, 23)
theorem yo_X9_clear : am_Yok d_X9_clear 0 := ⟨List.mem_of_getElem? (i := 483) (by decide +kernel), List.mem_of_getElem? (i := 74) (by decide +kernel), by decide +kernel, ⟨by decide +kernel, by decide +kernel⟩, by decide +kernel⟩
theorem ys_X9_clear : am_VM d_X9_clear := ⟨List.mem_of_getElem? (i := 481) (by decide +kernel), List.mem_of_getElem? (i := 482) (by decide +kernel)⟩
abbrev d_X9_init : am_Y := (yX9_init, cX9_init, 1, none, 1, 40)
theorem yo_X9_init : am_Yok d_X9_init 0 := ⟨List.mem_of_getElem? (i := 115) (by decide +kernel), List.mem_of_getElem? (i := 74) (by decide +kernel), by decide +kernel, ⟨by decide +kernel, by decide +kernel⟩, by decide +kernel⟩
theorem ys_X9_init : am_IM d_X9_init := List.mem_of_getElem? (i := 114) (by decide +kernel)
abbrev d_X9_startDay : am_Y := (yX9_startDay, cX9_startDay, 1, none, 1, 23)
theorem yo_X9_startDay : am_Yok d_X9_startDay 0 := ⟨List.mem_of_getElem? (i := 601) (by decide +kernel), List.mem_of_getElem? (i := 74) (by decide +kernel), by decide +kernel, ⟨by decide +kernel, by decide +kernel⟩, by decide +kernel⟩
theorem ys_X9_startDay : am_VM d_X9_startDay := ⟨List.mem_of_getElem? (i := 599) (by decide +kernel), List.mem_of_getElem? (i := 600) (by decide +kernel)⟩
