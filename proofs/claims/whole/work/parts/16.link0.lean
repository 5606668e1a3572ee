theorem lc_N_327 : Cond.constant "NoonJars" 327 (2147483646) ∈ lw_tbl := List.mem_of_getElem? (i := 901) (by decide +kernel)
theorem lc_Loads_24 : Cond.constant "NoonJars$Loads" 24 (1000000000) ∈ lw_tbl := List.mem_of_getElem? (i := 651) (by decide +kernel)
theorem lc_Loads_51 : Cond.constant "NoonJars$Loads" 51 (1000000) ∈ lw_tbl := List.mem_of_getElem? (i := 671) (by decide +kernel)
theorem lc_M_304 : Cond.constant "NoonJarsModel" 304 (2147483646) ∈ lw_tbl := List.mem_of_getElem? (i := 1468) (by decide +kernel)
theorem lc_Integer_265 : Cond.constant "java/lang/Integer" 265 (1431655765) ∈ lw_tbl := List.mem_of_getElem? (i := 665) (by decide +kernel)
theorem lc_Integer_266 : Cond.constant "java/lang/Integer" 266 (858993459) ∈ lw_tbl := List.mem_of_getElem? (i := 666) (by decide +kernel)
theorem lc_Integer_267 : Cond.constant "java/lang/Integer" 267 (252645135) ∈ lw_tbl := List.mem_of_getElem? (i := 667) (by decide +kernel)
theorem lf_N_11 : am_Fl "NoonJars" 11 9 0 (.array (.object "NoonJars$Row")) := ⟨_, rfl, by decide, rfl, Or.inl (List.mem_of_getElem? (i := 300) (by decide +kernel))⟩
theorem lf_N_15 : am_Fl "NoonJars" 15 9 1 (.array (.object "NoonJars$Row")) := ⟨_, rfl, by decide, rfl, Or.inl (List.mem_of_getElem? (i := 301) (by decide +kernel))⟩
theorem lf_N_21 : am_Fl "NoonJars" 21 9 2 (.object "NoonJars$Reader") := ⟨_, rfl, by decide, rfl, Or.inl (List.mem_of_getElem? (i := 302) (by decide +kernel))⟩
theorem lf_N_28 : am_Fl "NoonJars" 28 9 3 (.object "NoonJars$Scene") := ⟨_, rfl, by decide, rfl, Or.inl (List.mem_of_getElem? (i := 303) (by decide +kernel))⟩
theorem lf_N_35 : am_Fl "NoonJars" 35 9 4 (.object "NoonJars$Deeds") := ⟨_, rfl, by decide, rfl, Or.inl (List.mem_of_getElem? (i := 304) (by decide +kernel))⟩
theorem lf_N_44 : am_Fl "NoonJars" 44 9 5 (.object "NoonJars$Memory") := ⟨_, rfl, by decide, rfl, Or.inl (List.mem_of_getElem? (i := 305) (by decide +kernel))⟩
theorem lf_N_48 : am_Fl "NoonJars" 48 9 6 (.array .int) := ⟨_, rfl, by decide, rfl, Or.inl (List.mem_of_getElem? (i := 306) (by decide +kernel))⟩
theorem lf_N_55 : am_Fl "NoonJars" 55 9 7 (.object "NoonJars$Burnings") := ⟨_, rfl, by decide, rfl, Or.inl (List.mem_of_getElem? (i := 307) (by decide +kernel))⟩
theorem lf_N_62 : am_Fl "NoonJars" 62 9 8 (.object "NoonJars$Loads") := ⟨_, rfl, by decide, rfl, Or.inl (List.mem_of_getElem? (i := 308) (by decide +kernel))⟩
theorem lf_N_66 : am_Fl "NoonJars" 66 9 9 (.array .int) := ⟨_, rfl, by decide, rfl, Or.inl (List.mem_of_getElem? (i := 309) (by decide +kernel))⟩
theorem lf_N_72 : am_Fl "NoonJars" 72 9 10 (.object "NoonJars$Plan") := ⟨_, rfl, by decide, rfl, Or.inl (List.mem_of_getElem? (i := 310) (by decide +kernel))⟩
theorem lf_N_76 : am_Fl "NoonJars" 76 9 11 (.object "NoonJars$Plan") := ⟨_, rfl, by decide, rfl, Or.inl (List.mem_of_getElem? (i := 311) (by decide +kernel))⟩
theorem lf_N_98 : am_Fl "NoonJars" 98 7 0 (.array .int) := ⟨_, rfl, by decide, rfl, Or.inr ⟨"NoonJars", List.mem_of_getElem? (i := 287) (by decide +kernel)⟩⟩
theorem lf_N_109 : am_Fl "NoonJars" 109 7 1 .int := ⟨_, rfl, by decide, rfl, Or.inr ⟨"NoonJars", List.mem_of_getElem? (i := 291) (by decide +kernel)⟩⟩
theorem lf_N_143 : am_Fl "NoonJars" 143 0 4 .int := ⟨_, rfl, by decide, rfl, Or.inr ⟨"NoonJars", List.mem_of_getElem? (i := 205) (by decide +kernel)⟩⟩
theorem lf_N_144 : am_Fl "NoonJars" 144 4 2 .int := ⟨_, rfl, by decide, rfl, Or.inr ⟨"NoonJars", List.mem_of_getElem? (i := 251) (by decide +kernel)⟩⟩
theorem lf_N_156 : am_Fl "NoonJars" 156 4 5 (.array .int) := ⟨_, rfl, by decide, rfl, Or.inr ⟨"NoonJars", List.mem_of_getElem? (i := 260) (by decide +kernel)⟩⟩
theorem lf_N_162 : am_Fl "NoonJars" 162 8 0 (.array .int) := ⟨_, rfl, by decide, rfl, Or.inr ⟨"NoonJars", List.mem_of_getElem? (i := 120) (by decide +kernel)⟩⟩
theorem lf_N_169 : am_Fl "NoonJars" 169 8 2 (.array .int) := ⟨_, rfl, by decide, rfl, Or.inr ⟨"NoonJars", List.mem_of_getElem? (i := 127) (by decide +kernel)⟩⟩
theorem lf_N_187 : am_Fl "NoonJars" 187 8 1 (.array .int) := ⟨_, rfl, by decide, rfl, Or.inr ⟨"NoonJars", List.mem_of_getElem? (i := 124) (by decide +kernel)⟩⟩
theorem lf_N_190 : am_Fl "NoonJars" 190 8 5 .int := ⟨_, rfl, by decide, rfl, Or.inr ⟨"NoonJars", List.mem_of_getElem? (i := 136) (by decide +kernel)⟩⟩
theorem lf_N_197 : am_Fl "NoonJars" 197 4 6 (.array .int) := ⟨_, rfl, by decide, rfl, Or.inr ⟨"NoonJars", List.mem_of_getElem? (i := 265) (by decide +kernel)⟩⟩
theorem lf_N_200 : am_Fl "NoonJars" 200 8 6 .int := ⟨_, rfl, by decide, rfl, Or.inr ⟨"NoonJars", List.mem_of_getElem? (i := 139) (by decide +kernel)⟩⟩
theorem lf_N_203 : am_Fl "NoonJars" 203 4 0 .int := ⟨_, rfl, by decide, rfl, Or.inr ⟨"NoonJars", List.mem_of_getElem? (i := 243) (by decide +kernel)⟩⟩
theorem lf_N_212 : am_Fl "NoonJars" 212 8 3 (.array .int) := ⟨_, rfl, by decide, rfl, Or.inr ⟨"NoonJars", List.mem_of_getElem? (i := 130) (by decide +kernel)⟩⟩
theorem lf_N_224 : am_Fl "NoonJars" 224 1 3 .int := ⟨_, rfl, by decide, rfl, Or.inr ⟨"NoonJars", List.mem_of_getElem? (i := 179) (by decide +kernel)⟩⟩
theorem lf_N_262 : am_Fl "NoonJars" 262 4 4 (.array .int) := ⟨_, rfl, by decide, rfl, Or.inr ⟨"NoonJars", List.mem_of_getElem? (i := 257) (by decide +kernel)⟩⟩
theorem lf_N_296 : am_Fl "NoonJars" 296 5 7 .int := ⟨_, rfl, by decide, rfl, Or.inr ⟨"NoonJars", List.mem_of_getElem? (i := 733) (by decide +kernel)⟩⟩
theorem lf_N_304 : am_Fl "NoonJars" 304 0 2 (.array .int) := ⟨_, rfl, by decide, rfl, Or.inr ⟨"NoonJars", List.mem_of_getElem? (i := 202) (by decide +kernel)⟩⟩
theorem lf_N_339 : am_Fl "NoonJars" 339 9 13 .int := ⟨_, rfl, by decide, rfl, Or.inl (List.mem_of_getElem? (i := 313) (by decide +kernel))⟩
theorem lf_N_358 : am_Fl "NoonJars" 358 9 14 .int := ⟨_, rfl, by decide, rfl, Or.inl (List.mem_of_getElem? (i := 314) (by decide +kernel))⟩
theorem lf_N_368 : am_Fl "NoonJars" 368 0 0 (.array .int) := ⟨_, rfl, by decide, rfl, Or.inr ⟨"NoonJars", List.mem_of_getElem? (i := 198) (by decide +kernel)⟩⟩
theorem lf_N_371 : am_Fl "NoonJars" 371 0 1 (.array .int) := ⟨_, rfl, by decide, rfl, Or.inr ⟨"NoonJars", List.mem_of_getElem? (i := 200) (by decide +kernel)⟩⟩
theorem lf_N_383 : am_Fl "NoonJars" 383 8 4 (.array .int) := ⟨_, rfl, by decide, rfl, Or.inr ⟨"NoonJars", List.mem_of_getElem? (i := 133) (by decide +kernel)⟩⟩
theorem lf_N_389 : am_Fl "NoonJars" 389 9 12 (.object "NoonJars$Pourings") := ⟨_, rfl, by decide, rfl, Or.inl (List.mem_of_getElem? (i := 312) (by decide +kernel))⟩
theorem lf_Burnings_9 : am_Fl "NoonJars$Burnings" 9 0 0 (.array .int) := ⟨_, rfl, by decide, rfl, Or.inl (List.mem_of_getElem? (i := 197) (by decide +kernel))⟩
theorem lf_Burnings_15 : am_Fl "NoonJars$Burnings" 15 0 1 (.array .int) := ⟨_, rfl, by decide, rfl, Or.inl (List.mem_of_getElem? (i := 199) (by decide +kernel))⟩
theorem lf_Burnings_18 : am_Fl "NoonJars$Burnings" 18 0 2 (.array .int) := ⟨_, rfl, by decide, rfl, Or.inl (List.mem_of_getElem? (i := 201) (by decide +kernel))⟩
theorem lf_Burnings_21 : am_Fl "NoonJars$Burnings" 21 0 3 (.array .int) := ⟨_, rfl, by decide, rfl, Or.inl (List.mem_of_getElem? (i := 203) (by decide +kernel))⟩
theorem lf_Burnings_24 : am_Fl "NoonJars$Burnings" 24 0 4 .int := ⟨_, rfl, by decide, rfl, Or.inl (List.mem_of_getElem? (i := 204) (by decide +kernel))⟩
theorem lf_Burnings_28 : am_Fl "NoonJars$Burnings" 28 0 5 .int := ⟨_, rfl, by decide, rfl, Or.inl (List.mem_of_getElem? (i := 206) (by decide +kernel))⟩
theorem lf_Burnings_31 : am_Fl "NoonJars$Burnings" 31 4 2 .int := ⟨_, rfl, by decide, rfl, Or.inr ⟨"NoonJars", List.mem_of_getElem? (i := 248) (by decide +kernel)⟩⟩
theorem lf_Burnings_66 : am_Fl "NoonJars$Burnings" 66 4 6 (.array .int) := ⟨_, rfl, by decide, rfl, Or.inr ⟨"NoonJars", List.mem_of_getElem? (i := 263) (by decide +kernel)⟩⟩
theorem lf_Deeds_14 : am_Fl "NoonJars$Deeds" 14 1 0 (.object "NoonJars$Memory") := ⟨_, rfl, by decide, rfl, Or.inl (List.mem_of_getElem? (i := 175) (by decide +kernel))⟩
theorem lf_Deeds_20 : am_Fl "NoonJars$Deeds" 20 1 1 (.array .int) := ⟨_, rfl, by decide, rfl, Or.inl (List.mem_of_getElem? (i := 176) (by decide +kernel))⟩
theorem lf_Deeds_24 : am_Fl "NoonJars$Deeds" 24 1 3 .int := ⟨_, rfl, by decide, rfl, Or.inl (List.mem_of_getElem? (i := 178) (by decide +kernel))⟩
theorem lf_Deeds_28 : am_Fl "NoonJars$Deeds" 28 1 2 .int := ⟨_, rfl, by decide, rfl, Or.inl (List.mem_of_getElem? (i := 177) (by decide +kernel))⟩
theorem lf_Kinds_9 : Cond.fieldLink "NoonJars$Kinds" 9 "NoonJars$Kinds" "LETTERS" "[C" ∈ lw_tbl := List.mem_of_getElem? (i := 474) (by decide +kernel)
theorem lf_Loads_9 : am_Fl "NoonJars$Loads" 9 2 0 (.array .int) := ⟨_, rfl, by decide, rfl, Or.inl (List.mem_of_getElem? (i := 226) (by decide +kernel))⟩
theorem lf_Loads_15 : am_Fl "NoonJars$Loads" 15 2 1 (.array .int) := ⟨_, rfl, by decide, rfl, Or.inl (List.mem_of_getElem? (i := 227) (by decide +kernel))⟩
theorem lf_Loads_18 : am_Fl "NoonJars$Loads" 18 4 2 .int := ⟨_, rfl, by decide, rfl, Or.inr ⟨"NoonJars", List.mem_of_getElem? (i := 246) (by decide +kernel)⟩⟩
theorem lf_Loads_31 : am_Fl "NoonJars$Loads" 31 4 4 (.array .int) := ⟨_, rfl, by decide, rfl, Or.inr ⟨"NoonJars", List.mem_of_getElem? (i := 255) (by decide +kernel)⟩⟩
theorem lf_Loads_42 : am_Fl "NoonJars$Loads" 42 2 2 .int := ⟨_, rfl, by decide, rfl, Or.inl (List.mem_of_getElem? (i := 228) (by decide +kernel))⟩
theorem lf_Memory_17 : am_Fl "NoonJars$Memory" 17 3 0 (.array .int) := ⟨_, rfl, by decide, rfl, Or.inl (List.mem_of_getElem? (i := 171) (by decide +kernel))⟩
theorem lf_Memory_25 : am_Fl "NoonJars$Memory" 25 8 0 (.array .int) := ⟨_, rfl, by decide, rfl, Or.inr ⟨"NoonJars", List.mem_of_getElem? (i := 118) (by decide +kernel)⟩⟩
theorem lf_Memory_36 : am_Fl "NoonJars$Memory" 36 8 1 (.array .int) := ⟨_, rfl, by decide, rfl, Or.inr ⟨"NoonJars", List.mem_of_getElem? (i := 122) (by decide +kernel)⟩⟩
theorem lf_Memory_39 : am_Fl "NoonJars$Memory" 39 8 2 (.array .int) := ⟨_, rfl, by decide, rfl, Or.inr ⟨"NoonJars", List.mem_of_getElem? (i := 126) (by decide +kernel)⟩⟩
theorem lf_Memory_42 : am_Fl "NoonJars$Memory" 42 8 3 (.array .int) := ⟨_, rfl, by decide, rfl, Or.inr ⟨"NoonJars", List.mem_of_getElem? (i := 129) (by decide +kernel)⟩⟩
theorem lf_Memory_45 : am_Fl "NoonJars$Memory" 45 8 4 (.array .int) := ⟨_, rfl, by decide, rfl, Or.inr ⟨"NoonJars", List.mem_of_getElem? (i := 132) (by decide +kernel)⟩⟩
theorem lf_Memory_48 : am_Fl "NoonJars$Memory" 48 8 5 .int := ⟨_, rfl, by decide, rfl, Or.inr ⟨"NoonJars", List.mem_of_getElem? (i := 135) (by decide +kernel)⟩⟩
theorem lf_Memory_52 : am_Fl "NoonJars$Memory" 52 8 6 .int := ⟨_, rfl, by decide, rfl, Or.inr ⟨"NoonJars", List.mem_of_getElem? (i := 138) (by decide +kernel)⟩⟩
theorem lf_Plan_9 : am_Fl "NoonJars$Plan" 9 4 3 (.array .int) := ⟨_, rfl, by decide, rfl, Or.inl (List.mem_of_getElem? (i := 252) (by decide +kernel))⟩
theorem lf_Plan_15 : am_Fl "NoonJars$Plan" 15 4 4 (.array .int) := ⟨_, rfl, by decide, rfl, Or.inl (List.mem_of_getElem? (i := 254) (by decide +kernel))⟩
theorem lf_Plan_18 : am_Fl "NoonJars$Plan" 18 4 5 (.array .int) := ⟨_, rfl, by decide, rfl, Or.inl (List.mem_of_getElem? (i := 258) (by decide +kernel))⟩
theorem lf_Plan_21 : am_Fl "NoonJars$Plan" 21 4 6 (.array .int) := ⟨_, rfl, by decide, rfl, Or.inl (List.mem_of_getElem? (i := 261) (by decide +kernel))⟩
theorem lf_Plan_24 : am_Fl "NoonJars$Plan" 24 4 1 .int := ⟨_, rfl, by decide, rfl, Or.inl (List.mem_of_getElem? (i := 244) (by decide +kernel))⟩
theorem lf_Plan_28 : am_Fl "NoonJars$Plan" 28 4 2 .int := ⟨_, rfl, by decide, rfl, Or.inl (List.mem_of_getElem? (i := 247) (by decide +kernel))⟩
theorem lf_Pourings_11 : am_Fl "NoonJars$Pourings" 11 5 0 (.array .int) := ⟨_, rfl, by decide, rfl, Or.inl (List.mem_of_getElem? (i := 725) (by decide +kernel))⟩
theorem lf_Pourings_15 : am_Fl "NoonJars$Pourings" 15 5 1 (.array .int) := ⟨_, rfl, by decide, rfl, Or.inl (List.mem_of_getElem? (i := 726) (by decide +kernel))⟩
theorem lf_Pourings_18 : am_Fl "NoonJars$Pourings" 18 5 2 (.array .int) := ⟨_, rfl, by decide, rfl, Or.inl (List.mem_of_getElem? (i := 727) (by decide +kernel))⟩
theorem lf_Pourings_21 : am_Fl "NoonJars$Pourings" 21 5 3 (.array .int) := ⟨_, rfl, by decide, rfl, Or.inl (List.mem_of_getElem? (i := 728) (by decide +kernel))⟩
theorem lf_Pourings_24 : am_Fl "NoonJars$Pourings" 24 5 4 (.array .int) := ⟨_, rfl, by decide, rfl, Or.inl (List.mem_of_getElem? (i := 729) (by decide +kernel))⟩
theorem lf_Pourings_27 : am_Fl "NoonJars$Pourings" 27 5 5 .int := ⟨_, rfl, by decide, rfl, Or.inl (List.mem_of_getElem? (i := 730) (by decide +kernel))⟩
theorem lf_Pourings_31 : am_Fl "NoonJars$Pourings" 31 5 7 .int := ⟨_, rfl, by decide, rfl, Or.inl (List.mem_of_getElem? (i := 732) (by decide +kernel))⟩
theorem lf_Pourings_63 : am_Fl "NoonJars$Pourings" 63 7 0 (.array .int) := ⟨_, rfl, by decide, rfl, Or.inr ⟨"NoonJars", List.mem_of_getElem? (i := 288) (by decide +kernel)⟩⟩
theorem lf_Pourings_74 : am_Fl "NoonJars$Pourings" 74 5 6 .int := ⟨_, rfl, by decide, rfl, Or.inl (List.mem_of_getElem? (i := 731) (by decide +kernel))⟩
theorem lf_Pourings_77 : am_Fl "NoonJars$Pourings" 77 4 2 .int := ⟨_, rfl, by decide, rfl, Or.inr ⟨"NoonJars", List.mem_of_getElem? (i := 250) (by decide +kernel)⟩⟩
theorem lf_Pourings_80 : am_Fl "NoonJars$Pourings" 80 8 1 (.array .int) := ⟨_, rfl, by decide, rfl, Or.inr ⟨"NoonJars", List.mem_of_getElem? (i := 123) (by decide +kernel)⟩⟩
theorem lf_Pourings_85 : am_Fl "NoonJars$Pourings" 85 4 6 (.array .int) := ⟨_, rfl, by decide, rfl, Or.inr ⟨"NoonJars", List.mem_of_getElem? (i := 264) (by decide +kernel)⟩⟩
theorem lf_Pourings_86 : am_Fl "NoonJars$Pourings" 86 8 0 (.array .int) := ⟨_, rfl, by decide, rfl, Or.inr ⟨"NoonJars", List.mem_of_getElem? (i := 119) (by decide +kernel)⟩⟩
theorem lf_Pourings_89 : Cond.fieldLink "NoonJars$Pourings" 89 "NoonJars$Pourings" "UNITS" "[I" ∈ lw_tbl := List.mem_of_getElem? (i := 759) (by decide +kernel)
theorem lf_Reader_9 : am_Fl "NoonJars$Reader" 9 6 0 (.object "NoonJars$Row") := ⟨_, rfl, by decide, rfl, Or.inl (List.mem_of_getElem? (i := 104) (by decide +kernel))⟩
theorem lf_Reader_15 : am_Fl "NoonJars$Reader" 15 6 1 .int := ⟨_, rfl, by decide, rfl, Or.inl (List.mem_of_getElem? (i := 105) (by decide +kernel))⟩
theorem lf_Reader_44 : am_Fl "NoonJars$Reader" 44 4 0 .int := ⟨_, rfl, by decide, rfl, Or.inr ⟨"NoonJars", List.mem_of_getElem? (i := 242) (by decide +kernel)⟩⟩
theorem lf_Reader_49 : am_Fl "NoonJars$Reader" 49 4 1 .int := ⟨_, rfl, by decide, rfl, Or.inr ⟨"NoonJars", List.mem_of_getElem? (i := 245) (by decide +kernel)⟩⟩
theorem lf_Reader_52 : am_Fl "NoonJars$Reader" 52 4 3 (.array .int) := ⟨_, rfl, by decide, rfl, Or.inr ⟨"NoonJars", List.mem_of_getElem? (i := 253) (by decide +kernel)⟩⟩
theorem lf_Reader_56 : am_Fl "NoonJars$Reader" 56 4 4 (.array .int) := ⟨_, rfl, by decide, rfl, Or.inr ⟨"NoonJars", List.mem_of_getElem? (i := 256) (by decide +kernel)⟩⟩
theorem lf_Reader_59 : am_Fl "NoonJars$Reader" 59 4 2 .int := ⟨_, rfl, by decide, rfl, Or.inr ⟨"NoonJars", List.mem_of_getElem? (i := 249) (by decide +kernel)⟩⟩
theorem lf_Reader_78 : am_Fl "NoonJars$Reader" 78 4 5 (.array .int) := ⟨_, rfl, by decide, rfl, Or.inr ⟨"NoonJars", List.mem_of_getElem? (i := 259) (by decide +kernel)⟩⟩
theorem lf_Reader_81 : am_Fl "NoonJars$Reader" 81 4 6 (.array .int) := ⟨_, rfl, by decide, rfl, Or.inr ⟨"NoonJars", List.mem_of_getElem? (i := 262) (by decide +kernel)⟩⟩
theorem lf_Reader_90 : am_Fl "NoonJars$Reader" 90 7 0 (.array .int) := ⟨_, rfl, by decide, rfl, Or.inr ⟨"NoonJars", List.mem_of_getElem? (i := 289) (by decide +kernel)⟩⟩
theorem lf_Row_9 : am_Fl "NoonJars$Row" 9 7 0 (.array .int) := ⟨_, rfl, by decide, rfl, Or.inl (List.mem_of_getElem? (i := 286) (by decide +kernel))⟩
theorem lf_Row_15 : am_Fl "NoonJars$Row" 15 7 1 .int := ⟨_, rfl, by decide, rfl, Or.inl (List.mem_of_getElem? (i := 290) (by decide +kernel))⟩
theorem lf_Scene_9 : am_Fl "NoonJars$Scene" 9 8 0 (.array .int) := ⟨_, rfl, by decide, rfl, Or.inl (List.mem_of_getElem? (i := 117) (by decide +kernel))⟩
theorem lf_Scene_15 : am_Fl "NoonJars$Scene" 15 8 1 (.array .int) := ⟨_, rfl, by decide, rfl, Or.inl (List.mem_of_getElem? (i := 121) (by decide +kernel))⟩
theorem lf_Scene_18 : am_Fl "NoonJars$Scene" 18 8 2 (.array .int) := ⟨_, rfl, by decide, rfl, Or.inl (List.mem_of_getElem? (i := 125) (by decide +kernel))⟩
theorem lf_Scene_21 : am_Fl "NoonJars$Scene" 21 8 3 (.array .int) := ⟨_, rfl, by decide, rfl, Or.inl (List.mem_of_getElem? (i := 128) (by decide +kernel))⟩
theorem lf_Scene_24 : am_Fl "NoonJars$Scene" 24 8 4 (.array .int) := ⟨_, rfl, by decide, rfl, Or.inl (List.mem_of_getElem? (i := 131) (by decide +kernel))⟩
theorem lf_Scene_33 : am_Fl "NoonJars$Scene" 33 8 5 .int := ⟨_, rfl, by decide, rfl, Or.inl (List.mem_of_getElem? (i := 134) (by decide +kernel))⟩
theorem lf_Scene_37 : am_Fl "NoonJars$Scene" 37 8 6 .int := ⟨_, rfl, by decide, rfl, Or.inl (List.mem_of_getElem? (i := 137) (by decide +kernel))⟩
theorem lf_M_7 : am_Fl "NoonJarsModel" 7 10 1 (.array .int) := ⟨_, rfl, by decide, rfl, Or.inl (List.mem_of_getElem? (i := 975) (by decide +kernel))⟩
theorem lf_M_13 : am_Fl "NoonJarsModel" 13 10 3 (.array .int) := ⟨_, rfl, by decide, rfl, Or.inl (List.mem_of_getElem? (i := 977) (by decide +kernel))⟩
theorem lf_M_16 : am_Fl "NoonJarsModel" 16 10 4 (.array .int) := ⟨_, rfl, by decide, rfl, Or.inl (List.mem_of_getElem? (i := 978) (by decide +kernel))⟩
theorem lf_M_19 : am_Fl "NoonJarsModel" 19 10 5 (.array .int) := ⟨_, rfl, by decide, rfl, Or.inl (List.mem_of_getElem? (i := 979) (by decide +kernel))⟩
theorem lf_M_22 : am_Fl "NoonJarsModel" 22 10 6 (.array .int) := ⟨_, rfl, by decide, rfl, Or.inl (List.mem_of_getElem? (i := 980) (by decide +kernel))⟩
theorem lf_M_25 : am_Fl "NoonJarsModel" 25 10 7 (.array .byte) := ⟨_, rfl, by decide, rfl, Or.inl (List.mem_of_getElem? (i := 981) (by decide +kernel))⟩
theorem lf_M_29 : am_Fl "NoonJarsModel" 29 10 10 (.array .int) := ⟨_, rfl, by decide, rfl, Or.inl (List.mem_of_getElem? (i := 984) (by decide +kernel))⟩
theorem lf_M_32 : am_Fl "NoonJarsModel" 32 10 11 (.array .int) := ⟨_, rfl, by decide, rfl, Or.inl (List.mem_of_getElem? (i := 985) (by decide +kernel))⟩
theorem lf_M_35 : am_Fl "NoonJarsModel" 35 10 13 (.array .int) := ⟨_, rfl, by decide, rfl, Or.inl (List.mem_of_getElem? (i := 987) (by decide +kernel))⟩
theorem lf_M_38 : am_Fl "NoonJarsModel" 38 10 14 (.array .int) := ⟨_, rfl, by decide, rfl, Or.inl (List.mem_of_getElem? (i := 988) (by decide +kernel))⟩
theorem lf_M_41 : am_Fl "NoonJarsModel" 41 10 21 (.array .int) := ⟨_, rfl, by decide, rfl, Or.inl (List.mem_of_getElem? (i := 995) (by decide +kernel))⟩
theorem lf_M_44 : am_Fl "NoonJarsModel" 44 10 22 (.array .int) := ⟨_, rfl, by decide, rfl, Or.inl (List.mem_of_getElem? (i := 996) (by decide +kernel))⟩
theorem lf_M_47 : am_Fl "NoonJarsModel" 47 10 23 (.array .int) := ⟨_, rfl, by decide, rfl, Or.inl (List.mem_of_getElem? (i := 997) (by decide +kernel))⟩
theorem lf_M_50 : am_Fl "NoonJarsModel" 50 10 24 (.array .int) := ⟨_, rfl, by decide, rfl, Or.inl (List.mem_of_getElem? (i := 998) (by decide +kernel))⟩
theorem lf_M_53 : am_Fl "NoonJarsModel" 53 10 25 (.array .int) := ⟨_, rfl, by decide, rfl, Or.inl (List.mem_of_getElem? (i := 999) (by decide +kernel))⟩
theorem lf_M_56 : am_Fl "NoonJarsModel" 56 10 27 (.array .int) := ⟨_, rfl, by decide, rfl, Or.inl (List.mem_of_getElem? (i := 1001) (by decide +kernel))⟩
theorem lf_M_59 : am_Fl "NoonJarsModel" 59 10 28 (.array .boolean) := ⟨_, rfl, by decide, rfl, Or.inl (List.mem_of_getElem? (i := 1002) (by decide +kernel))⟩
theorem lf_M_63 : am_Fl "NoonJarsModel" 63 10 29 (.array .int) := ⟨_, rfl, by decide, rfl, Or.inl (List.mem_of_getElem? (i := 1003) (by decide +kernel))⟩
theorem lf_M_66 : am_Fl "NoonJarsModel" 66 10 30 (.array .int) := ⟨_, rfl, by decide, rfl, Or.inl (List.mem_of_getElem? (i := 1004) (by decide +kernel))⟩
theorem lf_M_69 : am_Fl "NoonJarsModel" 69 10 33 (.array .int) := ⟨_, rfl, by decide, rfl, Or.inl (List.mem_of_getElem? (i := 1007) (by decide +kernel))⟩
theorem lf_M_72 : am_Fl "NoonJarsModel" 72 10 34 (.array .int) := ⟨_, rfl, by decide, rfl, Or.inl (List.mem_of_getElem? (i := 1008) (by decide +kernel))⟩
theorem lf_M_75 : am_Fl "NoonJarsModel" 75 10 35 (.array .int) := ⟨_, rfl, by decide, rfl, Or.inl (List.mem_of_getElem? (i := 1009) (by decide +kernel))⟩
theorem lf_M_78 : am_Fl "NoonJarsModel" 78 10 36 (.array .int) := ⟨_, rfl, by decide, rfl, Or.inl (List.mem_of_getElem? (i := 1010) (by decide +kernel))⟩
theorem lf_M_81 : am_Fl "NoonJarsModel" 81 10 37 (.array .int) := ⟨_, rfl, by decide, rfl, Or.inl (List.mem_of_getElem? (i := 1011) (by decide +kernel))⟩
theorem lf_M_84 : am_Fl "NoonJarsModel" 84 10 38 (.array .int) := ⟨_, rfl, by decide, rfl, Or.inl (List.mem_of_getElem? (i := 1012) (by decide +kernel))⟩
theorem lf_M_87 : am_Fl "NoonJarsModel" 87 10 41 (.array .int) := ⟨_, rfl, by decide, rfl, Or.inl (List.mem_of_getElem? (i := 1015) (by decide +kernel))⟩
theorem lf_M_90 : am_Fl "NoonJarsModel" 90 10 42 (.array .int) := ⟨_, rfl, by decide, rfl, Or.inl (List.mem_of_getElem? (i := 1016) (by decide +kernel))⟩
theorem lf_M_93 : am_Fl "NoonJarsModel" 93 10 43 (.array .int) := ⟨_, rfl, by decide, rfl, Or.inl (List.mem_of_getElem? (i := 1017) (by decide +kernel))⟩
theorem lf_M_96 : am_Fl "NoonJarsModel" 96 10 44 (.array .int) := ⟨_, rfl, by decide, rfl, Or.inl (List.mem_of_getElem? (i := 1018) (by decide +kernel))⟩
theorem lf_M_99 : am_Fl "NoonJarsModel" 99 10 45 (.array .int) := ⟨_, rfl, by decide, rfl, Or.inl (List.mem_of_getElem? (i := 1019) (by decide +kernel))⟩
theorem lf_M_102 : am_Fl "NoonJarsModel" 102 10 0 .int := ⟨_, rfl, by decide, rfl, Or.inl (List.mem_of_getElem? (i := 974) (by decide +kernel))⟩
theorem lf_M_110 : am_Fl "NoonJarsModel" 110 10 2 .int := ⟨_, rfl, by decide, rfl, Or.inl (List.mem_of_getElem? (i := 976) (by decide +kernel))⟩
theorem lf_M_131 : am_Fl "NoonJarsModel" 131 10 15 .int := ⟨_, rfl, by decide, rfl, Or.inl (List.mem_of_getElem? (i := 989) (by decide +kernel))⟩
theorem lf_M_137 : am_Fl "NoonJarsModel" 137 10 16 .int := ⟨_, rfl, by decide, rfl, Or.inl (List.mem_of_getElem? (i := 990) (by decide +kernel))⟩
theorem lf_M_147 : am_Fl "NoonJarsModel" 147 10 17 .int := ⟨_, rfl, by decide, rfl, Or.inl (List.mem_of_getElem? (i := 991) (by decide +kernel))⟩
theorem lf_M_150 : am_Fl "NoonJarsModel" 150 10 18 .int := ⟨_, rfl, by decide, rfl, Or.inl (List.mem_of_getElem? (i := 992) (by decide +kernel))⟩
theorem lf_M_153 : am_Fl "NoonJarsModel" 153 10 19 .boolean := ⟨_, rfl, by decide, rfl, Or.inl (List.mem_of_getElem? (i := 993) (by decide +kernel))⟩
theorem lf_M_160 : am_Fl "NoonJarsModel" 160 10 20 .int := ⟨_, rfl, by decide, rfl, Or.inl (List.mem_of_getElem? (i := 994) (by decide +kernel))⟩
theorem lf_M_178 : am_Fl "NoonJarsModel" 178 10 8 .int := ⟨_, rfl, by decide, rfl, Or.inl (List.mem_of_getElem? (i := 982) (by decide +kernel))⟩
theorem lf_M_181 : am_Fl "NoonJarsModel" 181 10 9 .int := ⟨_, rfl, by decide, rfl, Or.inl (List.mem_of_getElem? (i := 983) (by decide +kernel))⟩
theorem lf_M_184 : am_Fl "NoonJarsModel" 184 10 12 .int := ⟨_, rfl, by decide, rfl, Or.inl (List.mem_of_getElem? (i := 986) (by decide +kernel))⟩
theorem lf_M_187 : am_Fl "NoonJarsModel" 187 10 26 .int := ⟨_, rfl, by decide, rfl, Or.inl (List.mem_of_getElem? (i := 1000) (by decide +kernel))⟩
theorem lf_M_190 : am_Fl "NoonJarsModel" 190 10 40 .int := ⟨_, rfl, by decide, rfl, Or.inl (List.mem_of_getElem? (i := 1014) (by decide +kernel))⟩
theorem lf_M_237 : am_Fl "NoonJarsModel" 237 10 31 .int := ⟨_, rfl, by decide, rfl, Or.inl (List.mem_of_getElem? (i := 1005) (by decide +kernel))⟩
theorem lf_M_256 : am_Fl "NoonJarsModel" 256 10 32 .int := ⟨_, rfl, by decide, rfl, Or.inl (List.mem_of_getElem? (i := 1006) (by decide +kernel))⟩
theorem lf_M_263 : am_Fl "NoonJarsModel" 263 10 39 .int := ⟨_, rfl, by decide, rfl, Or.inl (List.mem_of_getElem? (i := 1013) (by decide +kernel))⟩
theorem lf_M_342 : am_Fl "NoonJarsModel" 342 10 46 .long := ⟨_, rfl, by decide, rfl, Or.inl (List.mem_of_getElem? (i := 1020) (by decide +kernel))⟩
theorem ll_N_328 : Cond.constantLong "NoonJars" 328 (48271) ∈ lw_tbl := List.mem_of_getElem? (i := 902) (by decide +kernel)
theorem ll_N_330 : Cond.constantLong "NoonJars" 330 (2147483647) ∈ lw_tbl := List.mem_of_getElem? (i := 903) (by decide +kernel)
theorem ll_N_332 : Cond.constantLong "NoonJars" 332 (64) ∈ lw_tbl := List.mem_of_getElem? (i := 904) (by decide +kernel)
theorem ll_N_334 : Cond.constantLong "NoonJars" 334 (5) ∈ lw_tbl := List.mem_of_getElem? (i := 905) (by decide +kernel)
theorem ll_N_361 : Cond.constantLong "NoonJars" 361 (17) ∈ lw_tbl := List.mem_of_getElem? (i := 962) (by decide +kernel)
theorem ll_N_363 : Cond.constantLong "NoonJars" 363 (31) ∈ lw_tbl := List.mem_of_getElem? (i := 963) (by decide +kernel)
theorem ll_M_305 : Cond.constantLong "NoonJarsModel" 305 (48271) ∈ lw_tbl := List.mem_of_getElem? (i := 1469) (by decide +kernel)
