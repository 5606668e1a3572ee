abbrev d_X10_pour : am_Y := (yX10_pour, cX10_pour, 5, (some .int), 3, 86)
theorem yo_X10_pour : am_Yok d_X10_pour 2 := ⟨List.mem_of_getElem? (i := 568) (by decide +kernel), List.mem_of_getElem? (i := 72) (by decide +kernel), by decide +kernel, ⟨by decide +kernel, by decide +kernel⟩, by decide +kernel⟩
theorem ys_X10_pour : am_VM d_X10_pour := ⟨List.mem_of_getElem? (i := 566) (by decide +kernel), List.mem_of_getElem? (i := 567) (by decide +kernel)⟩
abbrev d_X10_pouringsFrom : am_Y := (yX10_pouringsFrom, cX10_pouringsFrom, 2, (some (.object "NoonJars$Pourings")), 4, 96)
theorem yo_X10_pouringsFrom : am_Yok d_X10_pouringsFrom 1 := ⟨List.mem_of_getElem? (i := 718) (by decide +kernel), List.mem_of_getElem? (i := 72) (by decide +kernel), by decide +kernel, ⟨by decide +kernel, by decide +kernel⟩, by decide +kernel⟩
theorem ys_X10_pouringsFrom : am_VM d_X10_pouringsFrom := ⟨List.mem_of_getElem? (i := 717) (by decide +kernel), List.mem_of_getElem? (i := 24) (by decide +kernel)⟩
abbrev d_X10_pours : am_Y := (yX10_pours, cX10_pours, 7, (some .int), 5, 117)
theorem yo_X10_pours : am_Yok d_X10_pours 2 := ⟨List.mem_of_getElem? (i := 710) (by decide +kernel), List.mem_of_getElem? (i := 72) (by decide +kernel), by decide +kernel, ⟨by decide +kernel, by decide +kernel⟩, by decide +kernel⟩
theorem ys_X10_pours : am_VM d_X10_pours := ⟨List.mem_of_getElem? (i := 708) (by decide +kernel), List.mem_of_getElem? (i := 709) (by decide +kernel)⟩
abbrev d_X10_put : am_Y := (yX10_put, cX10_put, 6, (some .int), 3, 68)
theorem yo_X10_put : am_Yok d_X10_put 3 := ⟨List.mem_of_getElem? (i := 424) (by decide +kernel), List.mem_of_getElem? (i := 72) (by decide +kernel), by decide +kernel, ⟨by decide +kernel, by decide +kernel⟩, by decide +kernel⟩
theorem ys_X10_put : am_VM d_X10_put := ⟨List.mem_of_getElem? (i := 422) (by decide +kernel), List.mem_of_getElem? (i := 423) (by decide +kernel)⟩
abbrev d_X10_refusePlace : am_Y := (yX10_refusePlace, cX10_refusePlace, 5, (some .int), 2, 44)
theorem yo_X10_refusePlace : am_Yok d_X10_refusePlace 3 := ⟨List.mem_of_getElem? (i := 373) (by decide +kernel), List.mem_of_getElem? (i := 72) (by decide +kernel), by decide +kernel, ⟨by decide +kernel, by decide +kernel⟩, by decide +kernel⟩
theorem ys_X10_refusePlace : am_VM d_X10_refusePlace := ⟨List.mem_of_getElem? (i := 372) (by decide +kernel), List.mem_of_getElem? (i := 2) (by decide +kernel)⟩
abbrev d_X10_refusePouring : am_Y := (yX10_refusePouring, cX10_refusePouring, 5, (some .int), 2, 43)
theorem yo_X10_refusePouring : am_Yok d_X10_refusePouring 2 := ⟨List.mem_of_getElem? (i := 714) (by decide +kernel), List.mem_of_getElem? (i := 72) (by decide +kernel), by decide +kernel, ⟨by decide +kernel, by decide +kernel⟩, by decide +kernel⟩
theorem ys_X10_refusePouring : am_VM d_X10_refusePouring := ⟨List.mem_of_getElem? (i := 713) (by decide +kernel), List.mem_of_getElem? (i := 23) (by decide +kernel)⟩
abbrev d_X10_refuseRow : am_Y := (yX10_refuseRow, cX10_refuseRow, 3, (some .int), 1, 22)
theorem yo_X10_refuseRow : am_Yok d_X10_refuseRow 2 := ⟨List.mem_of_getElem? (i := 377) (by decide +kernel), List.mem_of_getElem? (i := 72) (by decide +kernel), by decide +kernel, ⟨by decide +kernel, by decide +kernel⟩, by decide +kernel⟩
theorem ys_X10_refuseRow : am_VM d_X10_refuseRow := ⟨List.mem_of_getElem? (i := 376) (by decide +kernel), List.mem_of_getElem? (i := 3) (by decide +kernel)⟩
abbrev d_X10_row : am_Y := (yX10_row, cX10_row, 3, (some .int), 3, 68)
theorem yo_X10_row : am_Yok d_X10_row 2 := ⟨List.mem_of_getElem? (i := 349) (by decide +kernel), List.mem_of_getElem? (i := 72) (by decide +kernel), by decide +kernel, ⟨by decide +kernel, by decide +kernel⟩, by decide +kernel⟩
theorem ys_X10_row : am_VM d_X10_row := ⟨List.mem_of_getElem? (i := 347) (by decide +kernel), List.mem_of_getElem? (i := 348) (by decide +kernel)⟩
abbrev d_X10_seats : am_Y := (yX10_seats, cX10_seats, 6, (some .int), 3, 73)
theorem yo_X10_seats : am_Yok d_X10_seats 3 := ⟨List.mem_of_getElem? (i := 888) (by decide +kernel), List.mem_of_getElem? (i := 72) (by decide +kernel), by decide +kernel, ⟨by decide +kernel, by decide +kernel⟩, by decide +kernel⟩
theorem ys_X10_seats : am_VM d_X10_seats := ⟨List.mem_of_getElem? (i := 886) (by decide +kernel), List.mem_of_getElem? (i := 887) (by decide +kernel)⟩
abbrev d_X10_share : am_Y := (yX10_share, cX10_share, 9, (some .int), 2, 45)
theorem yo_X10_share : am_Yok d_X10_share 3 := ⟨List.mem_of_getElem? (i := 891) (by decide +kernel), List.mem_of_getElem? (i := 72) (by decide +kernel), by decide +kernel, ⟨by decide +kernel, by decide +kernel⟩, by decide +kernel⟩
theorem ys_X10_share : am_SM d_X10_share := List.mem_of_getElem? (i := 890) (by decide +kernel)
abbrev d_X10_spend : am_Y := (yX10_spend, cX10_spend, 4, (some .int), 3, 86)
theorem yo_X10_spend : am_Yok d_X10_spend 2 := ⟨List.mem_of_getElem? (i := 581) (by decide +kernel), List.mem_of_getElem? (i := 72) (by decide +kernel), by decide +kernel, ⟨by decide +kernel, by decide +kernel⟩, by decide +kernel⟩
theorem ys_X10_spend : am_VM d_X10_spend := ⟨List.mem_of_getElem? (i := 579) (by decide +kernel), List.mem_of_getElem? (i := 580) (by decide +kernel)⟩
abbrev d_X10_steal : am_Y := (yX10_steal, cX10_steal, 3, (some .int), 3, 86)
theorem yo_X10_steal : am_Yok d_X10_steal 2 := ⟨List.mem_of_getElem? (i := 585) (by decide +kernel), List.mem_of_getElem? (i := 72) (by decide +kernel), by decide +kernel, ⟨by decide +kernel, by decide +kernel⟩, by decide +kernel⟩
theorem ys_X10_steal : am_VM d_X10_steal := ⟨List.mem_of_getElem? (i := 583) (by decide +kernel), List.mem_of_getElem? (i := 584) (by decide +kernel)⟩
abbrev d_X10_store : am_Y := (yX10_store, cX10_store, 6, (some .int), 2, 42)
theorem yo_X10_store : am_Yok d_X10_store 2 := ⟨List.mem_of_getElem? (i := 703) (by decide +kernel), List.mem_of_getElem? (i := 72) (by decide +kernel), by decide +kernel, ⟨by decide +kernel, by decide +kernel⟩, by decide +kernel⟩
theorem ys_X10_store : am_VM d_X10_store := ⟨List.mem_of_getElem? (i := 701) (by decide +kernel), List.mem_of_getElem? (i := 702) (by decide +kernel)⟩
abbrev d_X10_sun : am_Y := (yX10_sun, cX10_sun, 2, (some .int), 1, 22)
theorem yo_X10_sun : am_Yok d_X10_sun 1 := ⟨List.mem_of_getElem? (i := 539) (by decide +kernel), List.mem_of_getElem? (i := 72) (by decide +kernel), by decide +kernel, ⟨by decide +kernel, by decide +kernel⟩, by decide +kernel⟩
theorem ys_X10_sun : am_VM d_X10_sun := ⟨List.mem_of_getElem? (i := 537) (by decide +kernel), List.mem_of_getElem? (i := 538) (by decide +kernel)⟩
abbrev d_X10_sure : am_Y := (yX10_sure, cX10_sure, 1, (some .int), 3, 69)
theorem yo_X10_sure : am_Yok d_X10_sure 0 := ⟨List.mem_of_getElem? (i := 851) (by decide +kernel), List.mem_of_getElem? (i := 72) (by decide +kernel), by decide +kernel, ⟨by decide +kernel, by decide +kernel⟩, by decide +kernel⟩
theorem ys_X10_sure : am_VM d_X10_sure := ⟨List.mem_of_getElem? (i := 849) (by decide +kernel), List.mem_of_getElem? (i := 850) (by decide +kernel)⟩
abbrev d_X10_tear : am_Y := (yX10_tear, cX10_tear, 3, (some .int), 2, 44)
theorem yo_X10_tear : am_Yok d_X10_tear 1 := ⟨List.mem_of_getElem? (i := 397) (by decide +kernel), List.mem_of_getElem? (i := 72) (by decide +kernel), by decide +kernel, ⟨by decide +kernel, by decide +kernel⟩, by decide +kernel⟩
theorem ys_X10_tear : am_VM d_X10_tear := ⟨List.mem_of_getElem? (i := 395) (by decide +kernel), List.mem_of_getElem? (i := 396) (by decide +kernel)⟩
abbrev d_X10_tell : am_Y := (yX10_tell, cX10_tell, 3, (some .int), 0, 0)
theorem yo_X10_tell : am_Yok d_X10_tell 2 := ⟨List.mem_of_getElem? (i := 389) (by decide +kernel), List.mem_of_getElem? (i := 72) (by decide +kernel), by decide +kernel, ⟨by decide +kernel, by decide +kernel⟩, by decide +kernel⟩
theorem ys_X10_tell : am_VM d_X10_tell := ⟨List.mem_of_getElem? (i := 388) (by decide +kernel), List.mem_of_getElem? (i := 4) (by decide +kernel)⟩
abbrev d_X10_test : am_Y := (yX10_test, cX10_test, 2, (some .int), 3, 75)
theorem yo_X10_test : am_Yok d_X10_test 0 := ⟨List.mem_of_getElem? (i := 863) (by decide +kernel), List.mem_of_getElem? (i := 72) (by decide +kernel), by decide +kernel, ⟨by decide +kernel, by decide +kernel⟩, by decide +kernel⟩
theorem ys_X10_test : am_VM d_X10_test := ⟨List.mem_of_getElem? (i := 861) (by decide +kernel), List.mem_of_getElem? (i := 862) (by decide +kernel)⟩
abbrev d_X10_text : am_Y := (yX10_text, cX10_text, 3, (some .int), 3, 68)
theorem yo_X10_text : am_Yok d_X10_text 2 := ⟨List.mem_of_getElem? (i := 420) (by decide +kernel), List.mem_of_getElem? (i := 72) (by decide +kernel), by decide +kernel, ⟨by decide +kernel, by decide +kernel⟩, by decide +kernel⟩
theorem ys_X10_text : am_VM d_X10_text := ⟨List.mem_of_getElem? (i := 418) (by decide +kernel), List.mem_of_getElem? (i := 419) (by decide +kernel)⟩
abbrev d_X10_theft : am_Y := (yX10_theft, cX10_theft, 8, (some .int), 2, 45)
theorem yo_X10_theft : am_Yok d_X10_theft 2 := ⟨List.mem_of_getElem? (i := 879) (by decide +kernel), List.mem_of_getElem? (i := 72) (by decide +kernel), by decide +kernel, ⟨by decide +kernel, by decide +kernel⟩, by decide +kernel⟩
theorem ys_X10_theft : am_VM d_X10_theft := ⟨List.mem_of_getElem? (i := 877) (by decide +kernel), List.mem_of_getElem? (i := 878) (by decide +kernel)⟩
abbrev d_X10_undo : am_Y := (yX10_undo, cX10_undo, 1, (some .int), 3, 85)
theorem yo_X10_undo : am_Yok d_X10_undo 0 := ⟨List.mem_of_getElem? (i := 605) (by decide +kernel), List.mem_of_getElem? (i := 72) (by decide +kernel), by decide +kernel, ⟨by decide +kernel, by decide +kernel⟩, by decide +kernel⟩
theorem ys_X10_undo : am_VM d_X10_undo := ⟨List.mem_of_getElem? (i := 603) (by decide +kernel), List.mem_of_getElem? (i := 604) (by decide +kernel)⟩
abbrev d_X10_upper : am_Y := (yX10_upper, cX10_upper, 1, (some .long), 1, 22)
theorem yo_X10_upper : am_Yok d_X10_upper 0 := ⟨List.mem_of_getElem? (i := 922) (by decide +kernel), List.mem_of_getElem? (i := 72) (by decide +kernel), by decide +kernel, ⟨by decide +kernel, by decide +kernel⟩, by decide +kernel⟩
theorem ys_X10_upper : am_VM d_X10_upper := ⟨List.mem_of_getElem? (i := 920) (by decide +kernel), List.mem_of_getElem? (i := 921) (by decide +kernel)⟩
abbrev d_X10_way : am_Y := (yX10_way, cX10_way, 8, (some .int), 5, 117)
theorem yo_X10_way : am_Yok d_X10_way 3 := ⟨List.mem_of_getElem? (i := 797) (by decide +kernel), List.mem_of_getElem? (i := 72) (by decide +kernel), by decide +kernel, ⟨by decide +kernel, by decide +kernel⟩, by decide +kernel⟩
theorem ys_X10_way : am_VM d_X10_way := ⟨List.mem_of_getElem? (i := 795) (by decide +kernel), List.mem_of_getElem? (i := 796) (by decide +kernel)⟩
abbrev d_X11_asked : am_Y := (yX11_asked, cX11_asked, 1, (some .int), 0, 0)
theorem yo_X11_asked : am_Yok d_X11_asked 0 := ⟨List.mem_of_getElem? (i := 1132) (by decide +kernel), List.mem_of_getElem? (i := 83) (by decide +kernel), by decide +kernel, ⟨by decide +kernel, by decide +kernel⟩, by decide +kernel⟩
theorem ys_X11_asked : am_VM d_X11_asked := ⟨List.mem_of_getElem? (i := 1130) (by decide +kernel), List.mem_of_getElem? (i := 1131) (by decide +kernel)⟩
abbrev d_X11_at : am_Y := (yX11_at, cX11_at, 3, (some .int), 2, 42)
theorem yo_X11_at : am_Yok d_X11_at 2 := ⟨List.mem_of_getElem? (i := 1159) (by decide +kernel), List.mem_of_getElem? (i := 83) (by decide +kernel), by decide +kernel, ⟨by decide +kernel, by decide +kernel⟩, by decide +kernel⟩
theorem ys_X11_at : am_VM d_X11_at := ⟨List.mem_of_getElem? (i := 1157) (by decide +kernel), List.mem_of_getElem? (i := 1158) (by decide +kernel)⟩
abbrev d_X11_best : am_Y := (yX11_best, cX11_best, 4, (some .int), 4, 88)
theorem yo_X11_best : am_Yok d_X11_best 1 := ⟨List.mem_of_getElem? (i := 1336) (by decide +kernel), List.mem_of_getElem? (i := 83) (by decide +kernel), by decide +kernel, ⟨by decide +kernel, by decide +kernel⟩, by decide +kernel⟩
theorem ys_X11_best : am_VM d_X11_best := ⟨List.mem_of_getElem? (i := 1334) (by decide +kernel), List.mem_of_getElem? (i := 1335) (by decide +kernel)⟩
abbrev d_X11_bits : am_Y := (yX11_bits, cX11_bits, 3, (some .int), 0, 0)
theorem yo_X11_bits : am_Yok d_X11_bits 1 := ⟨List.mem_of_getElem? (i := 1357) (by decide +kernel), List.mem_of_getElem? (i := 83) (by decide +kernel), by decide +kernel, ⟨by decide +kernel, by decide +kernel⟩, by decide +kernel⟩
theorem ys_X11_bits : am_SM d_X11_bits := List.mem_of_getElem? (i := 1356) (by decide +kernel)
abbrev d_X11_brings : am_Y := (yX11_brings, cX11_brings, 3, (some .int), 4, 88)
theorem yo_X11_brings : am_Yok d_X11_brings 2 := ⟨List.mem_of_getElem? (i := 1324) (by decide +kernel), List.mem_of_getElem? (i := 83) (by decide +kernel), by decide +kernel, ⟨by decide +kernel, by decide +kernel⟩, by decide +kernel⟩
theorem ys_X11_brings : am_VM d_X11_brings := ⟨List.mem_of_getElem? (i := 1322) (by decide +kernel), List.mem_of_getElem? (i := 1323) (by decide +kernel)⟩
abbrev d_X11_broughtTo : am_Y := (yX11_broughtTo, cX11_broughtTo, 5, (some .int), 2, 42)
theorem yo_X11_broughtTo : am_Yok d_X11_broughtTo 2 := ⟨List.mem_of_getElem? (i := 1332) (by decide +kernel), List.mem_of_getElem? (i := 83) (by decide +kernel), by decide +kernel, ⟨by decide +kernel, by decide +kernel⟩, by decide +kernel⟩
theorem ys_X11_broughtTo : am_VM d_X11_broughtTo := ⟨List.mem_of_getElem? (i := 1331) (by decide +kernel), List.mem_of_getElem? (i := 51) (by decide +kernel)⟩
abbrev d_X11_burns : am_Y := (yX11_burns, cX11_burns, 5, (some .int), 1, 21)
theorem yo_X11_burns : am_Yok d_X11_burns 2 := ⟨List.mem_of_getElem? (i := 1439) (by decide +kernel), List.mem_of_getElem? (i := 83) (by decide +kernel), by decide +kernel, ⟨by decide +kernel, by decide +kernel⟩, by decide +kernel⟩
theorem ys_X11_burns : am_VM d_X11_burns := ⟨List.mem_of_getElem? (i := 1438) (by decide +kernel), List.mem_of_getElem? (i := 63) (by decide +kernel)⟩
abbrev d_X11_burnt : am_Y := (yX11_burnt, cX11_burnt, 3, (some .int), 1, 22)
theorem yo_X11_burnt : am_Yok d_X11_burnt 2 := ⟨List.mem_of_getElem? (i := 1423) (by decide +kernel), List.mem_of_getElem? (i := 83) (by decide +kernel), by decide +kernel, ⟨by decide +kernel, by decide +kernel⟩, by decide +kernel⟩
theorem ys_X11_burnt : am_VM d_X11_burnt := ⟨List.mem_of_getElem? (i := 1421) (by decide +kernel), List.mem_of_getElem? (i := 1422) (by decide +kernel)⟩
abbrev d_X11_byteAt : am_Y := (yX11_byteAt, cX11_byteAt, 3, (some .int), 0, 0)
theorem yo_X11_byteAt : am_Yok d_X11_byteAt 2 := ⟨List.mem_of_getElem? (i := 1194) (by decide +kernel), List.mem_of_getElem? (i := 83) (by decide +kernel), by decide +kernel, ⟨by decide +kernel, by decide +kernel⟩, by decide +kernel⟩
theorem ys_X11_byteAt : am_VM d_X11_byteAt := ⟨List.mem_of_getElem? (i := 1193) (by decide +kernel), List.mem_of_getElem? (i := 36) (by decide +kernel)⟩
abbrev d_X11_carry : am_Y := (yX11_carry, cX11_carry, 4, (some .int), 2, 43)
theorem yo_X11_carry : am_Yok d_X11_carry 2 := ⟨List.mem_of_getElem? (i := 1289) (by decide +kernel), List.mem_of_getElem? (i := 83) (by decide +kernel), by decide +kernel, ⟨by decide +kernel, by decide +kernel⟩, by decide +kernel⟩
theorem ys_X11_carry : am_VM d_X11_carry := ⟨List.mem_of_getElem? (i := 1287) (by decide +kernel), List.mem_of_getElem? (i := 1288) (by decide +kernel)⟩
abbrev d_X11_code : am_Y := (yX11_code, cX11_code, 3, (some .int), 0, 0)
theorem yo_X11_code : am_Yok d_X11_code 0 := ⟨List.mem_of_getElem? (i := 1384) (by decide +kernel), List.mem_of_getElem? (i := 83) (by decide +kernel), by decide +kernel, ⟨by decide +kernel, by decide +kernel⟩, by decide +kernel⟩
theorem ys_X11_code : am_VM d_X11_code := ⟨List.mem_of_getElem? (i := 1383) (by decide +kernel), List.mem_of_getElem? (i := 56) (by decide +kernel)⟩
abbrev d_X11_common : am_Y := (yX11_common, cX11_common, 4, (some .int), 1, 22)
theorem yo_X11_common : am_Yok d_X11_common 0 := ⟨List.mem_of_getElem? (i := 1489) (by decide +kernel), List.mem_of_getElem? (i := 83) (by decide +kernel), by decide +kernel, ⟨by decide +kernel, by decide +kernel⟩, by decide +kernel⟩
theorem ys_X11_common : am_VM d_X11_common := ⟨List.mem_of_getElem? (i := 1488) (by decide +kernel), List.mem_of_getElem? (i := 66) (by decide +kernel)⟩
abbrev d_X11_copy : am_Y := (yX11_copy, cX11_copy, 7, (some .int), 2, 42)
theorem yo_X11_copy : am_Yok d_X11_copy 5 := ⟨List.mem_of_getElem? (i := 1167) (by decide +kernel), List.mem_of_getElem? (i := 83) (by decide +kernel), by decide +kernel, ⟨by decide +kernel, by decide +kernel⟩, by decide +kernel⟩
theorem ys_X11_copy : am_VM d_X11_copy := ⟨List.mem_of_getElem? (i := 1165) (by decide +kernel), List.mem_of_getElem? (i := 1166) (by decide +kernel)⟩
abbrev d_X11_costOf : am_Y := (yX11_costOf, cX11_costOf, 1, (some .int), 0, 0)
theorem yo_X11_costOf : am_Yok d_X11_costOf 1 := ⟨List.mem_of_getElem? (i := 1254) (by decide +kernel), List.mem_of_getElem? (i := 83) (by decide +kernel), by decide +kernel, ⟨by decide +kernel, by decide +kernel⟩, by decide +kernel⟩
theorem ys_X11_costOf : am_SM d_X11_costOf := List.mem_of_getElem? (i := 1253) (by decide +kernel)
abbrev d_X11_count : am_Y := (yX11_count, cX11_count, 2, (some .int), 2, 45)
theorem yo_X11_count : am_Yok d_X11_count 1 := ⟨List.mem_of_getElem? (i := 1501) (by decide +kernel), List.mem_of_getElem? (i := 83) (by decide +kernel), by decide +kernel, ⟨by decide +kernel, by decide +kernel⟩, by decide +kernel⟩
theorem ys_X11_count : am_VM d_X11_count := ⟨List.mem_of_getElem? (i := 1499) (by decide +kernel), List.mem_of_getElem? (i := 1500) (by decide +kernel)⟩
abbrev d_X11_counted : am_Y := (yX11_counted, cX11_counted, 4, (some .int), 1, 22)
theorem yo_X11_counted : am_Yok d_X11_counted 1 := ⟨List.mem_of_getElem? (i := 1505) (by decide +kernel), List.mem_of_getElem? (i := 83) (by decide +kernel), by decide +kernel, ⟨by decide +kernel, by decide +kernel⟩, by decide +kernel⟩
theorem ys_X11_counted : am_VM d_X11_counted := ⟨List.mem_of_getElem? (i := 1504) (by decide +kernel), List.mem_of_getElem? (i := 68) (by decide +kernel)⟩
abbrev d_X11_digest : am_Y := (yX11_digest, cX11_digest, 3, (some .long), 3, 67)
theorem yo_X11_digest : am_Yok d_X11_digest 0 := ⟨List.mem_of_getElem? (i := 1509) (by decide +kernel), List.mem_of_getElem? (i := 83) (by decide +kernel), by decide +kernel, ⟨by decide +kernel, by decide +kernel⟩, by decide +kernel⟩
theorem ys_X11_digest : am_VM d_X11_digest := ⟨List.mem_of_getElem? (i := 1507) (by decide +kernel), List.mem_of_getElem? (i := 1508) (by decide +kernel)⟩
abbrev d_X11_fault : am_Y := (yX11_fault, cX11_fault, 2, (some .int), 4, 89)
theorem yo_X11_fault : am_Yok d_X11_fault 1 := ⟨List.mem_of_getElem? (i := 1186) (by decide +kernel), List.mem_of_getElem? (i := 83) (by decide +kernel), by decide +kernel, ⟨by decide +kernel, by decide +kernel⟩, by decide +kernel⟩
theorem ys_X11_fault : am_VM d_X11_fault := ⟨List.mem_of_getElem? (i := 1184) (by decide +kernel), List.mem_of_getElem? (i := 1185) (by decide +kernel)⟩
abbrev d_X11_faultOf : am_Y := (yX11_faultOf, cX11_faultOf, 2, (some .int), 3, 68)
theorem yo_X11_faultOf : am_Yok d_X11_faultOf 1 := ⟨List.mem_of_getElem? (i := 1190) (by decide +kernel), List.mem_of_getElem? (i := 83) (by decide +kernel), by decide +kernel, ⟨by decide +kernel, by decide +kernel⟩, by decide +kernel⟩
theorem ys_X11_faultOf : am_VM d_X11_faultOf := ⟨List.mem_of_getElem? (i := 1189) (by decide +kernel), List.mem_of_getElem? (i := 35) (by decide +kernel)⟩
abbrev d_X11_figure : am_Y := (yX11_figure, cX11_figure, 5, (some .boolean), 1, 22)
theorem yo_X11_figure : am_Yok d_X11_figure 3 := ⟨List.mem_of_getElem? (i := 1206) (by decide +kernel), List.mem_of_getElem? (i := 83) (by decide +kernel), by decide +kernel, ⟨by decide +kernel, by decide +kernel⟩, by decide +kernel⟩
theorem ys_X11_figure : am_VM d_X11_figure := ⟨List.mem_of_getElem? (i := 1205) (by decide +kernel), List.mem_of_getElem? (i := 39) (by decide +kernel)⟩
abbrev d_X11_fill : am_Y := (yX11_fill, cX11_fill, 3, (some .int), 2, 43)
theorem yo_X11_fill : am_Yok d_X11_fill 1 := ⟨List.mem_of_getElem? (i := 1281) (by decide +kernel), List.mem_of_getElem? (i := 83) (by decide +kernel), by decide +kernel, ⟨by decide +kernel, by decide +kernel⟩, by decide +kernel⟩
theorem ys_X11_fill : am_VM d_X11_fill := ⟨List.mem_of_getElem? (i := 1279) (by decide +kernel), List.mem_of_getElem? (i := 1280) (by decide +kernel)⟩
abbrev d_X11_finding : am_Y := (yX11_finding, cX11_finding, 1, (some .int), 0, 0)
theorem yo_X11_finding : am_Yok d_X11_finding 0 := ⟨List.mem_of_getElem? (i := 1121) (by decide +kernel), List.mem_of_getElem? (i := 83) (by decide +kernel), by decide +kernel, ⟨by decide +kernel, by decide +kernel⟩, by decide +kernel⟩
theorem ys_X11_finding : am_VM d_X11_finding := ⟨List.mem_of_getElem? (i := 1119) (by decide +kernel), List.mem_of_getElem? (i := 1120) (by decide +kernel)⟩
abbrev d_X11_findings : am_Y := (yX11_findings, cX11_findings, 2, (some .int), 1, 22)
theorem yo_X11_findings : am_Yok d_X11_findings 1 := ⟨List.mem_of_getElem? (i := 1125) (by decide +kernel), List.mem_of_getElem? (i := 83) (by decide +kernel), by decide +kernel, ⟨by decide +kernel, by decide +kernel⟩, by decide +kernel⟩
theorem ys_X11_findings : am_VM d_X11_findings := ⟨List.mem_of_getElem? (i := 1123) (by decide +kernel), List.mem_of_getElem? (i := 1124) (by decide +kernel)⟩
abbrev d_X11_firstState : am_Y := (yX11_firstState, cX11_firstState, 4, (some .int), 2, 48)
theorem yo_X11_firstState : am_Yok d_X11_firstState 2 := ⟨List.mem_of_getElem? (i := 1396) (by decide +kernel), List.mem_of_getElem? (i := 83) (by decide +kernel), by decide +kernel, ⟨by decide +kernel, by decide +kernel⟩, by decide +kernel⟩
theorem ys_X11_firstState : am_VM d_X11_firstState := ⟨List.mem_of_getElem? (i := 1395) (by decide +kernel), List.mem_of_getElem? (i := 59) (by decide +kernel)⟩
abbrev d_X11_fits : am_Y := (yX11_fits, cX11_fits, 4, (some .boolean), 2, 45)
theorem yo_X11_fits : am_Yok d_X11_fits 1 := ⟨List.mem_of_getElem? (i := 1435) (by decide +kernel), List.mem_of_getElem? (i := 83) (by decide +kernel), by decide +kernel, ⟨by decide +kernel, by decide +kernel⟩, by decide +kernel⟩
theorem ys_X11_fits : am_VM d_X11_fits := ⟨List.mem_of_getElem? (i := 1434) (by decide +kernel), List.mem_of_getElem? (i := 62) (by decide +kernel)⟩
abbrev d_X11_forget : am_Y := (yX11_forget, cX11_forget, 3, (some .int), 1, 22)
theorem yo_X11_forget : am_Yok d_X11_forget 1 := ⟨List.mem_of_getElem? (i := 1427) (by decide +kernel), List.mem_of_getElem? (i := 83) (by decide +kernel), by decide +kernel, ⟨by decide +kernel, by decide +kernel⟩, by decide +kernel⟩
theorem ys_X11_forget : am_VM d_X11_forget := ⟨List.mem_of_getElem? (i := 1425) (by decide +kernel), List.mem_of_getElem? (i := 1426) (by decide +kernel)⟩
abbrev d_X11_greater : am_Y := (yX11_greater, cX11_greater, 2, (some .int), 0, 0)
theorem yo_X11_greater : am_Yok d_X11_greater 2 := ⟨List.mem_of_getElem? (i := 1419) (by decide +kernel), List.mem_of_getElem? (i := 83) (by decide +kernel), by decide +kernel, ⟨by decide +kernel, by decide +kernel⟩, by decide +kernel⟩
theorem ys_X11_greater : am_SM d_X11_greater := List.mem_of_getElem? (i := 1418) (by decide +kernel)
abbrev d_X11_has : am_Y := (yX11_has, cX11_has, 2, (some .boolean), 0, 0)
theorem yo_X11_has : am_Yok d_X11_has 2 := ⟨List.mem_of_getElem? (i := 1354) (by decide +kernel), List.mem_of_getElem? (i := 83) (by decide +kernel), by decide +kernel, ⟨by decide +kernel, by decide +kernel⟩, by decide +kernel⟩
theorem ys_X11_has : am_SM d_X11_has := List.mem_of_getElem? (i := 1353) (by decide +kernel)
abbrev d_X11_holds : am_Y := (yX11_holds, cX11_holds, 6, (some .boolean), 1, 23)
theorem yo_X11_holds : am_Yok d_X11_holds 3 := ⟨List.mem_of_getElem? (i := 1400) (by decide +kernel), List.mem_of_getElem? (i := 83) (by decide +kernel), by decide +kernel, ⟨by decide +kernel, by decide +kernel⟩, by decide +kernel⟩
theorem ys_X11_holds : am_VM d_X11_holds := ⟨List.mem_of_getElem? (i := 1399) (by decide +kernel), List.mem_of_getElem? (i := 60) (by decide +kernel)⟩
abbrev d_X11_hoursAt : am_Y := (yX11_hoursAt, cX11_hoursAt, 3, (some .int), 3, 66)
theorem yo_X11_hoursAt : am_Yok d_X11_hoursAt 2 := ⟨List.mem_of_getElem? (i := 1328) (by decide +kernel), List.mem_of_getElem? (i := 83) (by decide +kernel), by decide +kernel, ⟨by decide +kernel, by decide +kernel⟩, by decide +kernel⟩
theorem ys_X11_hoursAt : am_VM d_X11_hoursAt := ⟨List.mem_of_getElem? (i := 1327) (by decide +kernel), List.mem_of_getElem? (i := 50) (by decide +kernel)⟩
abbrev d_X11_in : am_Y := (yX11_in, cX11_in, 3, (some .boolean), 0, 0)
theorem yo_X11_in : am_Yok d_X11_in 3 := ⟨List.mem_of_getElem? (i := 1128) (by decide +kernel), List.mem_of_getElem? (i := 83) (by decide +kernel), by decide +kernel, ⟨by decide +kernel, by decide +kernel⟩, by decide +kernel⟩
theorem ys_X11_in : am_SM d_X11_in := List.mem_of_getElem? (i := 1127) (by decide +kernel)
abbrev d_X11_init : am_Y := (yX11_init, cX11_init, 2, none, 1, 40)
theorem yo_X11_init : am_Yok d_X11_init 0 := ⟨List.mem_of_getElem? (i := 972) (by decide +kernel), List.mem_of_getElem? (i := 83) (by decide +kernel), by decide +kernel, ⟨by decide +kernel, by decide +kernel⟩, by decide +kernel⟩
theorem ys_X11_init : am_IM d_X11_init := List.mem_of_getElem? (i := 971) (by decide +kernel)
abbrev d_X11_isJar : am_Y := (yX11_isJar, cX11_isJar, 2, (some .boolean), 1, 22)
theorem yo_X11_isJar : am_Yok d_X11_isJar 1 := ⟨List.mem_of_getElem? (i := 1233) (by decide +kernel), List.mem_of_getElem? (i := 83) (by decide +kernel), by decide +kernel, ⟨by decide +kernel, by decide +kernel⟩, by decide +kernel⟩
theorem ys_X11_isJar : am_VM d_X11_isJar := ⟨List.mem_of_getElem? (i := 1232) (by decide +kernel), List.mem_of_getElem? (i := 43) (by decide +kernel)⟩
abbrev d_X11_isPlace : am_Y := (yX11_isPlace, cX11_isPlace, 1, (some .boolean), 1, 22)
theorem yo_X11_isPlace : am_Yok d_X11_isPlace 1 := ⟨List.mem_of_getElem? (i := 1261) (by decide +kernel), List.mem_of_getElem? (i := 83) (by decide +kernel), by decide +kernel, ⟨by decide +kernel, by decide +kernel⟩, by decide +kernel⟩
theorem ys_X11_isPlace : am_SM d_X11_isPlace := List.mem_of_getElem? (i := 1260) (by decide +kernel)
abbrev d_X11_isRow : am_Y := (yX11_isRow, cX11_isRow, 1, (some .boolean), 1, 22)
theorem yo_X11_isRow : am_Yok d_X11_isRow 1 := ⟨List.mem_of_getElem? (i := 1139) (by decide +kernel), List.mem_of_getElem? (i := 83) (by decide +kernel), by decide +kernel, ⟨by decide +kernel, by decide +kernel⟩, by decide +kernel⟩
theorem ys_X11_isRow : am_SM d_X11_isRow := List.mem_of_getElem? (i := 1138) (by decide +kernel)
abbrev d_X11_isSign : am_Y := (yX11_isSign, cX11_isSign, 4, (some .boolean), 1, 22)
theorem yo_X11_isSign : am_Yok d_X11_isSign 2 := ⟨List.mem_of_getElem? (i := 1202) (by decide +kernel), List.mem_of_getElem? (i := 83) (by decide +kernel), by decide +kernel, ⟨by decide +kernel, by decide +kernel⟩, by decide +kernel⟩
theorem ys_X11_isSign : am_VM d_X11_isSign := ⟨List.mem_of_getElem? (i := 1201) (by decide +kernel), List.mem_of_getElem? (i := 38) (by decide +kernel)⟩
abbrev d_X11_isText : am_Y := (yX11_isText, cX11_isText, 1, (some .boolean), 1, 22)
theorem yo_X11_isText : am_Yok d_X11_isText 1 := ⟨List.mem_of_getElem? (i := 1178) (by decide +kernel), List.mem_of_getElem? (i := 83) (by decide +kernel), by decide +kernel, ⟨by decide +kernel, by decide +kernel⟩, by decide +kernel⟩
theorem ys_X11_isText : am_SM d_X11_isText := List.mem_of_getElem? (i := 1177) (by decide +kernel)
abbrev d_X11_isValley : am_Y := (yX11_isValley, cX11_isValley, 1, (some .boolean), 1, 22)
theorem yo_X11_isValley : am_Yok d_X11_isValley 1 := ⟨List.mem_of_getElem? (i := 1351) (by decide +kernel), List.mem_of_getElem? (i := 83) (by decide +kernel), by decide +kernel, ⟨by decide +kernel, by decide +kernel⟩, by decide +kernel⟩
theorem ys_X11_isValley : am_SM d_X11_isValley := List.mem_of_getElem? (i := 1350) (by decide +kernel)
abbrev d_X11_jar : am_Y := (yX11_jar, cX11_jar, 3, (some .int), 2, 43)
theorem yo_X11_jar : am_Yok d_X11_jar 2 := ⟨List.mem_of_getElem? (i := 1229) (by decide +kernel), List.mem_of_getElem? (i := 83) (by decide +kernel), by decide +kernel, ⟨by decide +kernel, by decide +kernel⟩, by decide +kernel⟩
theorem ys_X11_jar : am_VM d_X11_jar := ⟨List.mem_of_getElem? (i := 1227) (by decide +kernel), List.mem_of_getElem? (i := 1228) (by decide +kernel)⟩
abbrev d_X11_jarTells : am_Y := (yX11_jarTells, cX11_jarTells, 3, (some .int), 0, 0)
theorem yo_X11_jarTells : am_Yok d_X11_jarTells 2 := ⟨List.mem_of_getElem? (i := 1237) (by decide +kernel), List.mem_of_getElem? (i := 83) (by decide +kernel), by decide +kernel, ⟨by decide +kernel, by decide +kernel⟩, by decide +kernel⟩
theorem ys_X11_jarTells : am_VM d_X11_jarTells := ⟨List.mem_of_getElem? (i := 1236) (by decide +kernel), List.mem_of_getElem? (i := 44) (by decide +kernel)⟩
abbrev d_X11_keep : am_Y := (yX11_keep, cX11_keep, 3, (some .int), 1, 22)
theorem yo_X11_keep : am_Yok d_X11_keep 1 := ⟨List.mem_of_getElem? (i := 1316) (by decide +kernel), List.mem_of_getElem? (i := 83) (by decide +kernel), by decide +kernel, ⟨by decide +kernel, by decide +kernel⟩, by decide +kernel⟩
