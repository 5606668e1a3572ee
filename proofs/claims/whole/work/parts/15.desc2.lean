theorem ys_X11_keep : am_VM d_X11_keep := ⟨List.mem_of_getElem? (i := 1314) (by decide +kernel), List.mem_of_getElem? (i := 1315) (by decide +kernel)⟩
abbrev d_X11_kindOf : am_Y := (yX11_kindOf, cX11_kindOf, 1, (some .int), 0, 0)
theorem yo_X11_kindOf : am_Yok d_X11_kindOf 1 := ⟨List.mem_of_getElem? (i := 1221) (by decide +kernel), List.mem_of_getElem? (i := 83) (by decide +kernel), by decide +kernel, ⟨by decide +kernel, by decide +kernel⟩, by decide +kernel⟩
theorem ys_X11_kindOf : am_SM d_X11_kindOf := List.mem_of_getElem? (i := 1220) (by decide +kernel)
abbrev d_X11_land : am_Y := (yX11_land, cX11_land, 3, (some .int), 4, 89)
theorem yo_X11_land : am_Yok d_X11_land 1 := ⟨List.mem_of_getElem? (i := 1225) (by decide +kernel), List.mem_of_getElem? (i := 83) (by decide +kernel), by decide +kernel, ⟨by decide +kernel, by decide +kernel⟩, by decide +kernel⟩
theorem ys_X11_land : am_VM d_X11_land := ⟨List.mem_of_getElem? (i := 1223) (by decide +kernel), List.mem_of_getElem? (i := 1224) (by decide +kernel)⟩
abbrev d_X11_lay : am_Y := (yX11_lay, cX11_lay, 5, (some .int), 2, 42)
theorem yo_X11_lay : am_Yok d_X11_lay 3 := ⟨List.mem_of_getElem? (i := 1147) (by decide +kernel), List.mem_of_getElem? (i := 83) (by decide +kernel), by decide +kernel, ⟨by decide +kernel, by decide +kernel⟩, by decide +kernel⟩
theorem ys_X11_lay : am_VM d_X11_lay := ⟨List.mem_of_getElem? (i := 1145) (by decide +kernel), List.mem_of_getElem? (i := 1146) (by decide +kernel)⟩
abbrev d_X11_layHere : am_Y := (yX11_layHere, cX11_layHere, 3, none, 0, 0)
theorem yo_X11_layHere : am_Yok d_X11_layHere 1 := ⟨List.mem_of_getElem? (i := 1376) (by decide +kernel), List.mem_of_getElem? (i := 83) (by decide +kernel), by decide +kernel, ⟨by decide +kernel, by decide +kernel⟩, by decide +kernel⟩
theorem ys_X11_layHere : am_VM d_X11_layHere := ⟨List.mem_of_getElem? (i := 1375) (by decide +kernel), List.mem_of_getElem? (i := 54) (by decide +kernel)⟩
abbrev d_X11_layStates : am_Y := (yX11_layStates, cX11_layStates, 4, none, 3, 68)
theorem yo_X11_layStates : am_Yok d_X11_layStates 0 := ⟨List.mem_of_getElem? (i := 1380) (by decide +kernel), List.mem_of_getElem? (i := 83) (by decide +kernel), by decide +kernel, ⟨by decide +kernel, by decide +kernel⟩, by decide +kernel⟩
theorem ys_X11_layStates : am_VM d_X11_layStates := ⟨List.mem_of_getElem? (i := 1379) (by decide +kernel), List.mem_of_getElem? (i := 55) (by decide +kernel)⟩
abbrev d_X11_leakNow : am_Y := (yX11_leakNow, cX11_leakNow, 2, (some .int), 2, 42)
theorem yo_X11_leakNow : am_Yok d_X11_leakNow 1 := ⟨List.mem_of_getElem? (i := 1248) (by decide +kernel), List.mem_of_getElem? (i := 83) (by decide +kernel), by decide +kernel, ⟨by decide +kernel, by decide +kernel⟩, by decide +kernel⟩
theorem ys_X11_leakNow : am_VM d_X11_leakNow := ⟨List.mem_of_getElem? (i := 1247) (by decide +kernel), List.mem_of_getElem? (i := 45) (by decide +kernel)⟩
abbrev d_X11_leakOf : am_Y := (yX11_leakOf, cX11_leakOf, 3, (some .int), 1, 20)
theorem yo_X11_leakOf : am_Yok d_X11_leakOf 3 := ⟨List.mem_of_getElem? (i := 1251) (by decide +kernel), List.mem_of_getElem? (i := 83) (by decide +kernel), by decide +kernel, ⟨by decide +kernel, by decide +kernel⟩, by decide +kernel⟩
theorem ys_X11_leakOf : am_SM d_X11_leakOf := List.mem_of_getElem? (i := 1250) (by decide +kernel)
abbrev d_X11_leftBy : am_Y := (yX11_leftBy, cX11_leftBy, 5, (some .int), 3, 68)
theorem yo_X11_leftBy : am_Yok d_X11_leftBy 1 := ⟨List.mem_of_getElem? (i := 1451) (by decide +kernel), List.mem_of_getElem? (i := 83) (by decide +kernel), by decide +kernel, ⟨by decide +kernel, by decide +kernel⟩, by decide +kernel⟩
theorem ys_X11_leftBy : am_VM d_X11_leftBy := ⟨List.mem_of_getElem? (i := 1450) (by decide +kernel), List.mem_of_getElem? (i := 64) (by decide +kernel)⟩
abbrev d_X11_leftOf : am_Y := (yX11_leftOf, cX11_leftOf, 5, (some .int), 1, 20)
theorem yo_X11_leftOf : am_Yok d_X11_leftOf 3 := ⟨List.mem_of_getElem? (i := 1364) (by decide +kernel), List.mem_of_getElem? (i := 83) (by decide +kernel), by decide +kernel, ⟨by decide +kernel, by decide +kernel⟩, by decide +kernel⟩
theorem ys_X11_leftOf : am_SM d_X11_leftOf := List.mem_of_getElem? (i := 1363) (by decide +kernel)
abbrev d_X11_lightAll : am_Y := (yX11_lightAll, cX11_lightAll, 3, (some .int), 0, 0)
theorem yo_X11_lightAll : am_Yok d_X11_lightAll 0 := ⟨List.mem_of_getElem? (i := 1485) (by decide +kernel), List.mem_of_getElem? (i := 83) (by decide +kernel), by decide +kernel, ⟨by decide +kernel, by decide +kernel⟩, by decide +kernel⟩
theorem ys_X11_lightAll : am_VM d_X11_lightAll := ⟨List.mem_of_getElem? (i := 1484) (by decide +kernel), List.mem_of_getElem? (i := 65) (by decide +kernel)⟩
abbrev d_X11_lightAt : am_Y := (yX11_lightAt, cX11_lightAt, 4, (some .int), 0, 0)
theorem yo_X11_lightAt : am_Yok d_X11_lightAt 1 := ⟨List.mem_of_getElem? (i := 1269) (by decide +kernel), List.mem_of_getElem? (i := 83) (by decide +kernel), by decide +kernel, ⟨by decide +kernel, by decide +kernel⟩, by decide +kernel⟩
theorem ys_X11_lightAt : am_VM d_X11_lightAt := ⟨List.mem_of_getElem? (i := 1268) (by decide +kernel), List.mem_of_getElem? (i := 47) (by decide +kernel)⟩
abbrev d_X11_lit : am_Y := (yX11_lit, cX11_lit, 5, (some .int), 4, 88)
theorem yo_X11_lit : am_Yok d_X11_lit 1 := ⟨List.mem_of_getElem? (i := 1344) (by decide +kernel), List.mem_of_getElem? (i := 83) (by decide +kernel), by decide +kernel, ⟨by decide +kernel, by decide +kernel⟩, by decide +kernel⟩
theorem ys_X11_lit : am_VM d_X11_lit := ⟨List.mem_of_getElem? (i := 1343) (by decide +kernel), List.mem_of_getElem? (i := 52) (by decide +kernel)⟩
abbrev d_X11_loads : am_Y := (yX11_loads, cX11_loads, 7, (some .int), 5, 112)
theorem yo_X11_loads : am_Yok d_X11_loads 0 := ⟨List.mem_of_getElem? (i := 1340) (by decide +kernel), List.mem_of_getElem? (i := 83) (by decide +kernel), by decide +kernel, ⟨by decide +kernel, by decide +kernel⟩, by decide +kernel⟩
theorem ys_X11_loads : am_VM d_X11_loads := ⟨List.mem_of_getElem? (i := 1338) (by decide +kernel), List.mem_of_getElem? (i := 1339) (by decide +kernel)⟩
abbrev d_X11_look : am_Y := (yX11_look, cX11_look, 4, none, 0, 0)
theorem yo_X11_look : am_Yok d_X11_look 1 := ⟨List.mem_of_getElem? (i := 1388) (by decide +kernel), List.mem_of_getElem? (i := 83) (by decide +kernel), by decide +kernel, ⟨by decide +kernel, by decide +kernel⟩, by decide +kernel⟩
theorem ys_X11_look : am_VM d_X11_look := ⟨List.mem_of_getElem? (i := 1387) (by decide +kernel), List.mem_of_getElem? (i := 57) (by decide +kernel)⟩
abbrev d_X11_loss : am_Y := (yX11_loss, cX11_loss, 8, (some .int), 5, 113)
theorem yo_X11_loss : am_Yok d_X11_loss 2 := ⟨List.mem_of_getElem? (i := 1412) (by decide +kernel), List.mem_of_getElem? (i := 83) (by decide +kernel), by decide +kernel, ⟨by decide +kernel, by decide +kernel⟩, by decide +kernel⟩
theorem ys_X11_loss : am_VM d_X11_loss := ⟨List.mem_of_getElem? (i := 1410) (by decide +kernel), List.mem_of_getElem? (i := 1411) (by decide +kernel)⟩
abbrev d_X11_lots : am_Y := (yX11_lots, cX11_lots, 9, (some .int), 4, 87)
theorem yo_X11_lots : am_Yok d_X11_lots 2 := ⟨List.mem_of_getElem? (i := 1467) (by decide +kernel), List.mem_of_getElem? (i := 83) (by decide +kernel), by decide +kernel, ⟨by decide +kernel, by decide +kernel⟩, by decide +kernel⟩
theorem ys_X11_lots : am_VM d_X11_lots := ⟨List.mem_of_getElem? (i := 1465) (by decide +kernel), List.mem_of_getElem? (i := 1466) (by decide +kernel)⟩
abbrev d_X11_lower : am_Y := (yX11_lower, cX11_lower, 1, (some .long), 2, 45)
theorem yo_X11_lower : am_Yok d_X11_lower 0 := ⟨List.mem_of_getElem? (i := 1497) (by decide +kernel), List.mem_of_getElem? (i := 83) (by decide +kernel), by decide +kernel, ⟨by decide +kernel, by decide +kernel⟩, by decide +kernel⟩
theorem ys_X11_lower : am_VM d_X11_lower := ⟨List.mem_of_getElem? (i := 1495) (by decide +kernel), List.mem_of_getElem? (i := 1496) (by decide +kernel)⟩
abbrev d_X11_mark : am_Y := (yX11_mark, cX11_mark, 5, (some .int), 3, 63)
theorem yo_X11_mark : am_Yok d_X11_mark 2 := ⟨List.mem_of_getElem? (i := 1241) (by decide +kernel), List.mem_of_getElem? (i := 83) (by decide +kernel), by decide +kernel, ⟨by decide +kernel, by decide +kernel⟩, by decide +kernel⟩
theorem ys_X11_mark : am_VM d_X11_mark := ⟨List.mem_of_getElem? (i := 1239) (by decide +kernel), List.mem_of_getElem? (i := 1240) (by decide +kernel)⟩
abbrev d_X11_mean : am_Y := (yX11_mean, cX11_mean, 5, (some .int), 2, 42)
theorem yo_X11_mean : am_Yok d_X11_mean 1 := ⟨List.mem_of_getElem? (i := 1171) (by decide +kernel), List.mem_of_getElem? (i := 83) (by decide +kernel), by decide +kernel, ⟨by decide +kernel, by decide +kernel⟩, by decide +kernel⟩
theorem ys_X11_mean : am_VM d_X11_mean := ⟨List.mem_of_getElem? (i := 1169) (by decide +kernel), List.mem_of_getElem? (i := 1170) (by decide +kernel)⟩
abbrev d_X11_meets : am_Y := (yX11_meets, cX11_meets, 2, (some .int), 0, 0)
theorem yo_X11_meets : am_Yok d_X11_meets 1 := ⟨List.mem_of_getElem? (i := 1143) (by decide +kernel), List.mem_of_getElem? (i := 83) (by decide +kernel), by decide +kernel, ⟨by decide +kernel, by decide +kernel⟩, by decide +kernel⟩
theorem ys_X11_meets : am_VM d_X11_meets := ⟨List.mem_of_getElem? (i := 1142) (by decide +kernel), List.mem_of_getElem? (i := 32) (by decide +kernel)⟩
abbrev d_X11_mirror : am_Y := (yX11_mirror, cX11_mirror, 7, (some .int), 2, 42)
theorem yo_X11_mirror : am_Yok d_X11_mirror 2 := ⟨List.mem_of_getElem? (i := 1463) (by decide +kernel), List.mem_of_getElem? (i := 83) (by decide +kernel), by decide +kernel, ⟨by decide +kernel, by decide +kernel⟩, by decide +kernel⟩
theorem ys_X11_mirror : am_VM d_X11_mirror := ⟨List.mem_of_getElem? (i := 1461) (by decide +kernel), List.mem_of_getElem? (i := 1462) (by decide +kernel)⟩
abbrev d_X11_mix : am_Y := (yX11_mix, cX11_mix, 3, none, 0, 0)
theorem yo_X11_mix : am_Yok d_X11_mix 1 := ⟨List.mem_of_getElem? (i := 1514) (by decide +kernel), List.mem_of_getElem? (i := 83) (by decide +kernel), by decide +kernel, ⟨by decide +kernel, by decide +kernel⟩, by decide +kernel⟩
theorem ys_X11_mix : am_VM d_X11_mix := ⟨List.mem_of_getElem? (i := 1513) (by decide +kernel), List.mem_of_getElem? (i := 69) (by decide +kernel)⟩
abbrev d_X11_mixLand : am_Y := (yX11_mixLand, cX11_mixLand, 3, none, 2, 45)
theorem yo_X11_mixLand : am_Yok d_X11_mixLand 0 := ⟨List.mem_of_getElem? (i := 1519) (by decide +kernel), List.mem_of_getElem? (i := 83) (by decide +kernel), by decide +kernel, ⟨by decide +kernel, by decide +kernel⟩, by decide +kernel⟩
theorem ys_X11_mixLand : am_VM d_X11_mixLand := ⟨List.mem_of_getElem? (i := 1518) (by decide +kernel), List.mem_of_getElem? (i := 70) (by decide +kernel)⟩
abbrev d_X11_mixed : am_Y := (yX11_mixed, cX11_mixed, 4, (some .int), 3, 68)
theorem yo_X11_mixed : am_Yok d_X11_mixed 0 := ⟨List.mem_of_getElem? (i := 1431) (by decide +kernel), List.mem_of_getElem? (i := 83) (by decide +kernel), by decide +kernel, ⟨by decide +kernel, by decide +kernel⟩, by decide +kernel⟩
theorem ys_X11_mixed : am_VM d_X11_mixed := ⟨List.mem_of_getElem? (i := 1429) (by decide +kernel), List.mem_of_getElem? (i := 1430) (by decide +kernel)⟩
abbrev d_X11_most : am_Y := (yX11_most, cX11_most, 6, (some .int), 5, 113)
theorem yo_X11_most : am_Yok d_X11_most 1 := ⟨List.mem_of_getElem? (i := 1416) (by decide +kernel), List.mem_of_getElem? (i := 83) (by decide +kernel), by decide +kernel, ⟨by decide +kernel, by decide +kernel⟩, by decide +kernel⟩
theorem ys_X11_most : am_VM d_X11_most := ⟨List.mem_of_getElem? (i := 1414) (by decide +kernel), List.mem_of_getElem? (i := 1415) (by decide +kernel)⟩
abbrev d_X11_needStates : am_Y := (yX11_needStates, cX11_needStates, 3, (some .int), 4, 91)
theorem yo_X11_needStates : am_Yok d_X11_needStates 2 := ⟨List.mem_of_getElem? (i := 1372) (by decide +kernel), List.mem_of_getElem? (i := 83) (by decide +kernel), by decide +kernel, ⟨by decide +kernel, by decide +kernel⟩, by decide +kernel⟩
theorem ys_X11_needStates : am_VM d_X11_needStates := ⟨List.mem_of_getElem? (i := 1371) (by decide +kernel), List.mem_of_getElem? (i := 53) (by decide +kernel)⟩
abbrev d_X11_needs : am_Y := (yX11_needs, cX11_needs, 6, (some .int), 4, 88)
theorem yo_X11_needs : am_Yok d_X11_needs 1 := ⟨List.mem_of_getElem? (i := 1348) (by decide +kernel), List.mem_of_getElem? (i := 83) (by decide +kernel), by decide +kernel, ⟨by decide +kernel, by decide +kernel⟩, by decide +kernel⟩
theorem ys_X11_needs : am_VM d_X11_needs := ⟨List.mem_of_getElem? (i := 1346) (by decide +kernel), List.mem_of_getElem? (i := 1347) (by decide +kernel)⟩
abbrev d_X11_night : am_Y := (yX11_night, cX11_night, 5, (some .int), 3, 63)
theorem yo_X11_night : am_Yok d_X11_night 0 := ⟨List.mem_of_getElem? (i := 1308) (by decide +kernel), List.mem_of_getElem? (i := 83) (by decide +kernel), by decide +kernel, ⟨by decide +kernel, by decide +kernel⟩, by decide +kernel⟩
theorem ys_X11_night : am_VM d_X11_night := ⟨List.mem_of_getElem? (i := 1306) (by decide +kernel), List.mem_of_getElem? (i := 1307) (by decide +kernel)⟩
abbrev d_X11_on : am_Y := (yX11_on, cX11_on, 3, (some .int), 1, 22)
theorem yo_X11_on : am_Yok d_X11_on 1 := ⟨List.mem_of_getElem? (i := 1320) (by decide +kernel), List.mem_of_getElem? (i := 83) (by decide +kernel), by decide +kernel, ⟨by decide +kernel, by decide +kernel⟩, by decide +kernel⟩
theorem ys_X11_on : am_VM d_X11_on := ⟨List.mem_of_getElem? (i := 1318) (by decide +kernel), List.mem_of_getElem? (i := 1319) (by decide +kernel)⟩
abbrev d_X11_place : am_Y := (yX11_place, cX11_place, 3, (some .int), 2, 45)
theorem yo_X11_place : am_Yok d_X11_place 2 := ⟨List.mem_of_getElem? (i := 1258) (by decide +kernel), List.mem_of_getElem? (i := 83) (by decide +kernel), by decide +kernel, ⟨by decide +kernel, by decide +kernel⟩, by decide +kernel⟩
theorem ys_X11_place : am_VM d_X11_place := ⟨List.mem_of_getElem? (i := 1256) (by decide +kernel), List.mem_of_getElem? (i := 1257) (by decide +kernel)⟩
abbrev d_X11_placeTells : am_Y := (yX11_placeTells, cX11_placeTells, 3, (some .int), 1, 23)
theorem yo_X11_placeTells : am_Yok d_X11_placeTells 2 := ⟨List.mem_of_getElem? (i := 1265) (by decide +kernel), List.mem_of_getElem? (i := 83) (by decide +kernel), by decide +kernel, ⟨by decide +kernel, by decide +kernel⟩, by decide +kernel⟩
theorem ys_X11_placeTells : am_VM d_X11_placeTells := ⟨List.mem_of_getElem? (i := 1264) (by decide +kernel), List.mem_of_getElem? (i := 46) (by decide +kernel)⟩
abbrev d_X11_pour : am_Y := (yX11_pour, cX11_pour, 5, (some .int), 2, 43)
theorem yo_X11_pour : am_Yok d_X11_pour 2 := ⟨List.mem_of_getElem? (i := 1293) (by decide +kernel), List.mem_of_getElem? (i := 83) (by decide +kernel), by decide +kernel, ⟨by decide +kernel, by decide +kernel⟩, by decide +kernel⟩
theorem ys_X11_pour : am_VM d_X11_pour := ⟨List.mem_of_getElem? (i := 1291) (by decide +kernel), List.mem_of_getElem? (i := 1292) (by decide +kernel)⟩
abbrev d_X11_pouredOf : am_Y := (yX11_pouredOf, cX11_pouredOf, 3, (some .int), 1, 20)
theorem yo_X11_pouredOf : am_Yok d_X11_pouredOf 2 := ⟨List.mem_of_getElem? (i := 1296) (by decide +kernel), List.mem_of_getElem? (i := 83) (by decide +kernel), by decide +kernel, ⟨by decide +kernel, by decide +kernel⟩, by decide +kernel⟩
theorem ys_X11_pouredOf : am_SM d_X11_pouredOf := List.mem_of_getElem? (i := 1295) (by decide +kernel)
abbrev d_X11_pours : am_Y := (yX11_pours, cX11_pours, 5, (some .int), 5, 113)
theorem yo_X11_pours : am_Yok d_X11_pours 2 := ⟨List.mem_of_getElem? (i := 1368) (by decide +kernel), List.mem_of_getElem? (i := 83) (by decide +kernel), by decide +kernel, ⟨by decide +kernel, by decide +kernel⟩, by decide +kernel⟩
theorem ys_X11_pours : am_VM d_X11_pours := ⟨List.mem_of_getElem? (i := 1366) (by decide +kernel), List.mem_of_getElem? (i := 1367) (by decide +kernel)⟩
abbrev d_X11_put : am_Y := (yX11_put, cX11_put, 5, (some .int), 2, 42)
theorem yo_X11_put : am_Yok d_X11_put 3 := ⟨List.mem_of_getElem? (i := 1182) (by decide +kernel), List.mem_of_getElem? (i := 83) (by decide +kernel), by decide +kernel, ⟨by decide +kernel, by decide +kernel⟩, by decide +kernel⟩
theorem ys_X11_put : am_VM d_X11_put := ⟨List.mem_of_getElem? (i := 1180) (by decide +kernel), List.mem_of_getElem? (i := 1181) (by decide +kernel)⟩
abbrev d_X11_readsJar : am_Y := (yX11_readsJar, cX11_readsJar, 5, (some .boolean), 1, 22)
theorem yo_X11_readsJar : am_Yok d_X11_readsJar 1 := ⟨List.mem_of_getElem? (i := 1218) (by decide +kernel), List.mem_of_getElem? (i := 83) (by decide +kernel), by decide +kernel, ⟨by decide +kernel, by decide +kernel⟩, by decide +kernel⟩
theorem ys_X11_readsJar : am_VM d_X11_readsJar := ⟨List.mem_of_getElem? (i := 1217) (by decide +kernel), List.mem_of_getElem? (i := 42) (by decide +kernel)⟩
abbrev d_X11_readsMules : am_Y := (yX11_readsMules, cX11_readsMules, 2, (some .boolean), 2, 46)
theorem yo_X11_readsMules : am_Yok d_X11_readsMules 1 := ⟨List.mem_of_getElem? (i := 1198) (by decide +kernel), List.mem_of_getElem? (i := 83) (by decide +kernel), by decide +kernel, ⟨by decide +kernel, by decide +kernel⟩, by decide +kernel⟩
theorem ys_X11_readsMules : am_VM d_X11_readsMules := ⟨List.mem_of_getElem? (i := 1197) (by decide +kernel), List.mem_of_getElem? (i := 37) (by decide +kernel)⟩
abbrev d_X11_readsNeeds : am_Y := (yX11_readsNeeds, cX11_readsNeeds, 3, (some .boolean), 2, 46)
theorem yo_X11_readsNeeds : am_Yok d_X11_readsNeeds 1 := ⟨List.mem_of_getElem? (i := 1214) (by decide +kernel), List.mem_of_getElem? (i := 83) (by decide +kernel), by decide +kernel, ⟨by decide +kernel, by decide +kernel⟩, by decide +kernel⟩
theorem ys_X11_readsNeeds : am_VM d_X11_readsNeeds := ⟨List.mem_of_getElem? (i := 1213) (by decide +kernel), List.mem_of_getElem? (i := 41) (by decide +kernel)⟩
abbrev d_X11_readsSuns : am_Y := (yX11_readsSuns, cX11_readsSuns, 2, (some .boolean), 2, 46)
theorem yo_X11_readsSuns : am_Yok d_X11_readsSuns 1 := ⟨List.mem_of_getElem? (i := 1210) (by decide +kernel), List.mem_of_getElem? (i := 83) (by decide +kernel), by decide +kernel, ⟨by decide +kernel, by decide +kernel⟩, by decide +kernel⟩
theorem ys_X11_readsSuns : am_VM d_X11_readsSuns := ⟨List.mem_of_getElem? (i := 1209) (by decide +kernel), List.mem_of_getElem? (i := 40) (by decide +kernel)⟩
abbrev d_X11_remembers : am_Y := (yX11_remembers, cX11_remembers, 4, none, 0, 0)
theorem yo_X11_remembers : am_Yok d_X11_remembers 1 := ⟨List.mem_of_getElem? (i := 1285) (by decide +kernel), List.mem_of_getElem? (i := 83) (by decide +kernel), by decide +kernel, ⟨by decide +kernel, by decide +kernel⟩, by decide +kernel⟩
theorem ys_X11_remembers : am_VM d_X11_remembers := ⟨List.mem_of_getElem? (i := 1284) (by decide +kernel), List.mem_of_getElem? (i := 49) (by decide +kernel)⟩
abbrev d_X11_row : am_Y := (yX11_row, cX11_row, 4, (some .int), 2, 42)
theorem yo_X11_row : am_Yok d_X11_row 2 := ⟨List.mem_of_getElem? (i := 1136) (by decide +kernel), List.mem_of_getElem? (i := 83) (by decide +kernel), by decide +kernel, ⟨by decide +kernel, by decide +kernel⟩, by decide +kernel⟩
theorem ys_X11_row : am_VM d_X11_row := ⟨List.mem_of_getElem? (i := 1134) (by decide +kernel), List.mem_of_getElem? (i := 1135) (by decide +kernel)⟩
abbrev d_X11_rowAt : am_Y := (yX11_rowAt, cX11_rowAt, 3, (some .int), 0, 0)
theorem yo_X11_rowAt : am_Yok d_X11_rowAt 2 := ⟨List.mem_of_getElem? (i := 1151) (by decide +kernel), List.mem_of_getElem? (i := 83) (by decide +kernel), by decide +kernel, ⟨by decide +kernel, by decide +kernel⟩, by decide +kernel⟩
theorem ys_X11_rowAt : am_VM d_X11_rowAt := ⟨List.mem_of_getElem? (i := 1150) (by decide +kernel), List.mem_of_getElem? (i := 33) (by decide +kernel)⟩
abbrev d_X11_seats : am_Y := (yX11_seats, cX11_seats, 10, (some .int), 2, 42)
theorem yo_X11_seats : am_Yok d_X11_seats 3 := ⟨List.mem_of_getElem? (i := 1459) (by decide +kernel), List.mem_of_getElem? (i := 83) (by decide +kernel), by decide +kernel, ⟨by decide +kernel, by decide +kernel⟩, by decide +kernel⟩
theorem ys_X11_seats : am_VM d_X11_seats := ⟨List.mem_of_getElem? (i := 1457) (by decide +kernel), List.mem_of_getElem? (i := 1458) (by decide +kernel)⟩
abbrev d_X11_shines : am_Y := (yX11_shines, cX11_shines, 2, (some .boolean), 0, 0)
theorem yo_X11_shines : am_Yok d_X11_shines 1 := ⟨List.mem_of_getElem? (i := 1277) (by decide +kernel), List.mem_of_getElem? (i := 83) (by decide +kernel), by decide +kernel, ⟨by decide +kernel, by decide +kernel⟩, by decide +kernel⟩
theorem ys_X11_shines : am_VM d_X11_shines := ⟨List.mem_of_getElem? (i := 1276) (by decide +kernel), List.mem_of_getElem? (i := 48) (by decide +kernel)⟩
abbrev d_X11_sizeAll : am_Y := (yX11_sizeAll, cX11_sizeAll, 3, (some .int), 0, 0)
theorem yo_X11_sizeAll : am_Yok d_X11_sizeAll 0 := ⟨List.mem_of_getElem? (i := 1493) (by decide +kernel), List.mem_of_getElem? (i := 83) (by decide +kernel), by decide +kernel, ⟨by decide +kernel, by decide +kernel⟩, by decide +kernel⟩
theorem ys_X11_sizeAll : am_VM d_X11_sizeAll := ⟨List.mem_of_getElem? (i := 1492) (by decide +kernel), List.mem_of_getElem? (i := 67) (by decide +kernel)⟩
abbrev d_X11_spend : am_Y := (yX11_spend, cX11_spend, 4, (some .int), 2, 43)
theorem yo_X11_spend : am_Yok d_X11_spend 2 := ⟨List.mem_of_getElem? (i := 1300) (by decide +kernel), List.mem_of_getElem? (i := 83) (by decide +kernel), by decide +kernel, ⟨by decide +kernel, by decide +kernel⟩, by decide +kernel⟩
theorem ys_X11_spend : am_VM d_X11_spend := ⟨List.mem_of_getElem? (i := 1298) (by decide +kernel), List.mem_of_getElem? (i := 1299) (by decide +kernel)⟩
abbrev d_X11_steal : am_Y := (yX11_steal, cX11_steal, 3, (some .int), 2, 43)
theorem yo_X11_steal : am_Yok d_X11_steal 2 := ⟨List.mem_of_getElem? (i := 1304) (by decide +kernel), List.mem_of_getElem? (i := 83) (by decide +kernel), by decide +kernel, ⟨by decide +kernel, by decide +kernel⟩, by decide +kernel⟩
theorem ys_X11_steal : am_VM d_X11_steal := ⟨List.mem_of_getElem? (i := 1302) (by decide +kernel), List.mem_of_getElem? (i := 1303) (by decide +kernel)⟩
abbrev d_X11_step : am_Y := (yX11_step, cX11_step, 7, none, 2, 42)
theorem yo_X11_step : am_Yok d_X11_step 3 := ⟨List.mem_of_getElem? (i := 1392) (by decide +kernel), List.mem_of_getElem? (i := 83) (by decide +kernel), by decide +kernel, ⟨by decide +kernel, by decide +kernel⟩, by decide +kernel⟩
theorem ys_X11_step : am_VM d_X11_step := ⟨List.mem_of_getElem? (i := 1391) (by decide +kernel), List.mem_of_getElem? (i := 58) (by decide +kernel)⟩
abbrev d_X11_store : am_Y := (yX11_store, cX11_store, 4, (some .int), 2, 44)
theorem yo_X11_store : am_Yok d_X11_store 2 := ⟨List.mem_of_getElem? (i := 1361) (by decide +kernel), List.mem_of_getElem? (i := 83) (by decide +kernel), by decide +kernel, ⟨by decide +kernel, by decide +kernel⟩, by decide +kernel⟩
theorem ys_X11_store : am_VM d_X11_store := ⟨List.mem_of_getElem? (i := 1359) (by decide +kernel), List.mem_of_getElem? (i := 1360) (by decide +kernel)⟩
abbrev d_X11_sumOf : am_Y := (yX11_sumOf, cX11_sumOf, 4, (some .int), 1, 23)
theorem yo_X11_sumOf : am_Yok d_X11_sumOf 1 := ⟨List.mem_of_getElem? (i := 1404) (by decide +kernel), List.mem_of_getElem? (i := 83) (by decide +kernel), by decide +kernel, ⟨by decide +kernel, by decide +kernel⟩, by decide +kernel⟩
theorem ys_X11_sumOf : am_VM d_X11_sumOf := ⟨List.mem_of_getElem? (i := 1403) (by decide +kernel), List.mem_of_getElem? (i := 61) (by decide +kernel)⟩
abbrev d_X11_sun : am_Y := (yX11_sun, cX11_sun, 2, (some .int), 1, 22)
theorem yo_X11_sun : am_Yok d_X11_sun 1 := ⟨List.mem_of_getElem? (i := 1273) (by decide +kernel), List.mem_of_getElem? (i := 83) (by decide +kernel), by decide +kernel, ⟨by decide +kernel, by decide +kernel⟩, by decide +kernel⟩
theorem ys_X11_sun : am_VM d_X11_sun := ⟨List.mem_of_getElem? (i := 1271) (by decide +kernel), List.mem_of_getElem? (i := 1272) (by decide +kernel)⟩
abbrev d_X11_sure : am_Y := (yX11_sure, cX11_sure, 6, (some .int), 3, 68)
theorem yo_X11_sure : am_Yok d_X11_sure 0 := ⟨List.mem_of_getElem? (i := 1443) (by decide +kernel), List.mem_of_getElem? (i := 83) (by decide +kernel), by decide +kernel, ⟨by decide +kernel, by decide +kernel⟩, by decide +kernel⟩
theorem ys_X11_sure : am_VM d_X11_sure := ⟨List.mem_of_getElem? (i := 1441) (by decide +kernel), List.mem_of_getElem? (i := 1442) (by decide +kernel)⟩
abbrev d_X11_tear : am_Y := (yX11_tear, cX11_tear, 2, (some .int), 2, 42)
theorem yo_X11_tear : am_Yok d_X11_tear 1 := ⟨List.mem_of_getElem? (i := 1163) (by decide +kernel), List.mem_of_getElem? (i := 83) (by decide +kernel), by decide +kernel, ⟨by decide +kernel, by decide +kernel⟩, by decide +kernel⟩
theorem ys_X11_tear : am_VM d_X11_tear := ⟨List.mem_of_getElem? (i := 1161) (by decide +kernel), List.mem_of_getElem? (i := 1162) (by decide +kernel)⟩
abbrev d_X11_tells : am_Y := (yX11_tells, cX11_tells, 3, (some .int), 0, 0)
theorem yo_X11_tells : am_Yok d_X11_tells 2 := ⟨List.mem_of_getElem? (i := 1155) (by decide +kernel), List.mem_of_getElem? (i := 83) (by decide +kernel), by decide +kernel, ⟨by decide +kernel, by decide +kernel⟩, by decide +kernel⟩
theorem ys_X11_tells : am_VM d_X11_tells := ⟨List.mem_of_getElem? (i := 1154) (by decide +kernel), List.mem_of_getElem? (i := 34) (by decide +kernel)⟩
abbrev d_X11_tenth : am_Y := (yX11_tenth, cX11_tenth, 1, (some .int), 0, 0)
theorem yo_X11_tenth : am_Yok d_X11_tenth 1 := ⟨List.mem_of_getElem? (i := 1244) (by decide +kernel), List.mem_of_getElem? (i := 83) (by decide +kernel), by decide +kernel, ⟨by decide +kernel, by decide +kernel⟩, by decide +kernel⟩
theorem ys_X11_tenth : am_SM d_X11_tenth := List.mem_of_getElem? (i := 1243) (by decide +kernel)
abbrev d_X11_test : am_Y := (yX11_test, cX11_test, 5, (some .int), 4, 92)
theorem yo_X11_test : am_Yok d_X11_test 0 := ⟨List.mem_of_getElem? (i := 1447) (by decide +kernel), List.mem_of_getElem? (i := 83) (by decide +kernel), by decide +kernel, ⟨by decide +kernel, by decide +kernel⟩, by decide +kernel⟩
theorem ys_X11_test : am_VM d_X11_test := ⟨List.mem_of_getElem? (i := 1445) (by decide +kernel), List.mem_of_getElem? (i := 1446) (by decide +kernel)⟩
abbrev d_X11_text : am_Y := (yX11_text, cX11_text, 4, (some .int), 2, 42)
theorem yo_X11_text : am_Yok d_X11_text 2 := ⟨List.mem_of_getElem? (i := 1175) (by decide +kernel), List.mem_of_getElem? (i := 83) (by decide +kernel), by decide +kernel, ⟨by decide +kernel, by decide +kernel⟩, by decide +kernel⟩
theorem ys_X11_text : am_VM d_X11_text := ⟨List.mem_of_getElem? (i := 1173) (by decide +kernel), List.mem_of_getElem? (i := 1174) (by decide +kernel)⟩
abbrev d_X11_theft : am_Y := (yX11_theft, cX11_theft, 6, (some .int), 2, 42)
theorem yo_X11_theft : am_Yok d_X11_theft 2 := ⟨List.mem_of_getElem? (i := 1455) (by decide +kernel), List.mem_of_getElem? (i := 83) (by decide +kernel), by decide +kernel, ⟨by decide +kernel, by decide +kernel⟩, by decide +kernel⟩
theorem ys_X11_theft : am_VM d_X11_theft := ⟨List.mem_of_getElem? (i := 1453) (by decide +kernel), List.mem_of_getElem? (i := 1454) (by decide +kernel)⟩
abbrev d_X11_undo : am_Y := (yX11_undo, cX11_undo, 3, (some .int), 0, 0)
theorem yo_X11_undo : am_Yok d_X11_undo 0 := ⟨List.mem_of_getElem? (i := 1312) (by decide +kernel), List.mem_of_getElem? (i := 83) (by decide +kernel), by decide +kernel, ⟨by decide +kernel, by decide +kernel⟩, by decide +kernel⟩
theorem ys_X11_undo : am_VM d_X11_undo := ⟨List.mem_of_getElem? (i := 1310) (by decide +kernel), List.mem_of_getElem? (i := 1311) (by decide +kernel)⟩
abbrev d_X11_upper : am_Y := (yX11_upper, cX11_upper, 1, (some .long), 2, 45)
theorem yo_X11_upper : am_Yok d_X11_upper 0 := ⟨List.mem_of_getElem? (i := 1481) (by decide +kernel), List.mem_of_getElem? (i := 83) (by decide +kernel), by decide +kernel, ⟨by decide +kernel, by decide +kernel⟩, by decide +kernel⟩
theorem ys_X11_upper : am_VM d_X11_upper := ⟨List.mem_of_getElem? (i := 1479) (by decide +kernel), List.mem_of_getElem? (i := 1480) (by decide +kernel)⟩
abbrev d_X11_way : am_Y := (yX11_way, cX11_way, 8, (some .int), 5, 113)
theorem yo_X11_way : am_Yok d_X11_way 3 := ⟨List.mem_of_getElem? (i := 1408) (by decide +kernel), List.mem_of_getElem? (i := 83) (by decide +kernel), by decide +kernel, ⟨by decide +kernel, by decide +kernel⟩, by decide +kernel⟩
theorem ys_X11_way : am_VM d_X11_way := ⟨List.mem_of_getElem? (i := 1406) (by decide +kernel), List.mem_of_getElem? (i := 1407) (by decide +kernel)⟩
abbrev d_X1_clear : am_Y := (yX1_clear, cX1_clear, 1, none, 0, 0)
theorem yo_X1_clear : am_Yok d_X1_clear 0 := ⟨List.mem_of_getElem? (i := 488) (by decide +kernel), List.mem_of_getElem? (i := 75) (by decide +kernel), by decide +kernel, ⟨by decide +kernel, by decide +kernel⟩, by decide +kernel⟩
theorem ys_X1_clear : am_VM d_X1_clear := ⟨List.mem_of_getElem? (i := 486) (by decide +kernel), List.mem_of_getElem? (i := 487) (by decide +kernel)⟩
abbrev d_X1_init : am_Y := (yX1_init, cX1_init, 1, none, 2, 61)
theorem yo_X1_init : am_Yok d_X1_init 0 := ⟨List.mem_of_getElem? (i := 160) (by decide +kernel), List.mem_of_getElem? (i := 75) (by decide +kernel), by decide +kernel, ⟨by decide +kernel, by decide +kernel⟩, by decide +kernel⟩
theorem ys_X1_init : am_IM d_X1_init := List.mem_of_getElem? (i := 159) (by decide +kernel)
abbrev d_X1_remember : am_Y := (yX1_remember, cX1_remember, 4, none, 2, 63)
