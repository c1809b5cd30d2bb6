theorem ig_0 : ∀ w ∈ u_ws RX0 TX0 8, w ∈ oh_t := oh_ofs [115, 117, 119, 121, 123, 125, 127, 129] (by decide +kernel) (by decide +kernel)
theorem oh_df0 : ∀ j, j < 8 → defaultValue (tyX0 j) = vp_V [.null, .null, .null, .null, .null, .null, .null, .int 0] j := by
  intro j hj
  rcases (show j = 0 ∨ j = 1 ∨ j = 2 ∨ j = 3 ∨ j = 4 ∨ j = 5 ∨ j = 6 ∨ j = 7 by omega) with rfl | rfl | rfl | rfl | rfl | rfl | rfl | rfl <;> rfl
theorem ig_1 : ∀ w ∈ u_ws RX1 TX1 5, w ∈ oh_t := oh_ofs [155, 157, 159, 161, 163] (by decide +kernel) (by decide +kernel)
theorem oh_df1 : ∀ j, j < 5 → defaultValue (tyX1 j) = vp_V [.int 0, .int 0, .int 0, .int 0, .int 0] j := by
  intro j hj
  rcases (show j = 0 ∨ j = 1 ∨ j = 2 ∨ j = 3 ∨ j = 4 by omega) with rfl | rfl | rfl | rfl | rfl <;> rfl
theorem ig_2 : ∀ w ∈ u_ws RX2 TX2 4, w ∈ oh_t := oh_ofs [249, 251, 253, 255] (by decide +kernel) (by decide +kernel)
theorem oh_df2 : ∀ j, j < 4 → defaultValue (tyX2 j) = vp_V [.null, .null, .null, .null] j := by
  intro j hj
  rcases (show j = 0 ∨ j = 1 ∨ j = 2 ∨ j = 3 by omega) with rfl | rfl | rfl | rfl <;> rfl
theorem ig_3 : ∀ w ∈ u_ws RX3 TX3 3, w ∈ oh_t := oh_ofs [203, 205, 207] (by decide +kernel) (by decide +kernel)
theorem oh_df3 : ∀ j, j < 3 → defaultValue (tyX3 j) = vp_V [.null, .null, .null] j := by
  intro j hj
  rcases (show j = 0 ∨ j = 1 ∨ j = 2 by omega) with rfl | rfl | rfl <;> rfl
theorem ig_4 : ∀ w ∈ u_ws RX4 TX4 6, w ∈ oh_t := oh_ofs [225, 227, 229, 231, 233, 235] (by decide +kernel) (by decide +kernel)
theorem oh_df4 : ∀ j, j < 6 → defaultValue (tyX4 j) = vp_V [.null, .int 0, .int 0, .int 0, .int 0, .int 0] j := by
  intro j hj
  rcases (show j = 0 ∨ j = 1 ∨ j = 2 ∨ j = 3 ∨ j = 4 ∨ j = 5 by omega) with rfl | rfl | rfl | rfl | rfl | rfl <;> rfl
theorem ig_5 : ∀ w ∈ u_ws RX5 TX5 7, w ∈ oh_t := oh_ofs [177, 179, 181, 183, 185, 187, 189] (by decide +kernel) (by decide +kernel)
theorem oh_df5 : ∀ j, j < 7 → defaultValue (tyX5 j) = vp_V [.null, .null, .null, .null, .null, .null, .null] j := by
  intro j hj
  rcases (show j = 0 ∨ j = 1 ∨ j = 2 ∨ j = 3 ∨ j = 4 ∨ j = 5 ∨ j = 6 by omega) with rfl | rfl | rfl | rfl | rfl | rfl | rfl <;> rfl
theorem ig_6 : ∀ w ∈ u_ws RX6 TX6 9, w ∈ oh_t := oh_ofs [267, 269, 271, 273, 275, 277, 279, 281, 283] (by decide +kernel) (by decide +kernel)
theorem oh_df6 : ∀ j, j < 9 → defaultValue (tyX6 j) = vp_V [.null, .null, .int 0, .null, .null, .null, .null, .null, .null] j := by
  intro j hj
  rcases (show j = 0 ∨ j = 1 ∨ j = 2 ∨ j = 3 ∨ j = 4 ∨ j = 5 ∨ j = 6 ∨ j = 7 ∨ j = 8 by omega) with rfl | rfl | rfl | rfl | rfl | rfl | rfl | rfl | rfl <;> rfl
theorem ig_7 : ∀ w ∈ u_ws RX7 TX7 29, w ∈ oh_t := oh_ofs [1002, 1004, 1006, 1008, 1010, 1012, 1014, 1016, 1018, 1020, 1022, 1024, 1026, 1028, 1030, 1032, 1034, 1036, 1038, 1040, 1042, 1044, 1046, 1048, 1050, 1052, 1054, 1056, 1058] (by decide +kernel) (by decide +kernel)
theorem oh_df7 : ∀ j, j < 29 → defaultValue (tyX7 j) = vp_V [.null, .null, .null, .null, .null, .null, .null, .int 0, .null, .int 0, .null, .int 0, .null, .int 0, .null, .int 0, .null, .null, .null, .int 0, .null, .int 0, .int 0, .int 0, .long 0, .int 0, .int 0, .null, .int 0] j := by
  intro j hj
  rcases (show j = 0 ∨ j = 1 ∨ j = 2 ∨ j = 3 ∨ j = 4 ∨ j = 5 ∨ j = 6 ∨ j = 7 ∨ j = 8 ∨ j = 9 ∨ j = 10 ∨ j = 11 ∨ j = 12 ∨ j = 13 ∨ j = 14 ∨ j = 15 ∨ j = 16 ∨ j = 17 ∨ j = 18 ∨ j = 19 ∨ j = 20 ∨ j = 21 ∨ j = 22 ∨ j = 23 ∨ j = 24 ∨ j = 25 ∨ j = 26 ∨ j = 27 ∨ j = 28 by omega) with rfl | rfl | rfl | rfl | rfl | rfl | rfl | rfl | rfl | rfl | rfl | rfl | rfl | rfl | rfl | rfl | rfl | rfl | rfl | rfl | rfl | rfl | rfl | rfl | rfl | rfl | rfl | rfl | rfl <;> rfl
theorem oh_new_i (n : Nat) (c : ClassId) : vp_cell c (n, .inl (fun _ => 0)) = arrV c n (fun _ => defaultValue .int) := rfl
theorem oh_new_l (n : Nat) (c : ClassId) : vp_cell c (n, .inr (.inl (fun _ => 0))) = arrV c n (fun _ => defaultValue .long) := rfl
theorem q_0 : Cond.selects RX6 yX6_refuse yX6_refuse ∈ oh_t := oh_of (i := 0) (by decide +kernel) rfl
theorem q_1 : Cond.selects RX6 yX6_whyNoRow yX6_whyNoRow ∈ oh_t := oh_of (i := 1) (by decide +kernel) rfl
theorem q_2 : Cond.selects RX6 yX6_isBridge yX6_isBridge ∈ oh_t := oh_of (i := 2) (by decide +kernel) rfl
theorem q_5 : Cond.selects RX6 yX6_isRoad yX6_isRoad ∈ oh_t := oh_of (i := 5) (by decide +kernel) rfl
theorem q_6 : Cond.selects RX2 yX2_readStatement yX2_readStatement ∈ oh_t := oh_of (i := 6) (by decide +kernel) rfl
theorem q_15 : Cond.selects RX6 yX6_isWaggon yX6_isWaggon ∈ oh_t := oh_of (i := 15) (by decide +kernel) rfl
theorem q_16 : Cond.selects RX6 yX6_isPack yX6_isPack ∈ oh_t := oh_of (i := 16) (by decide +kernel) rfl
theorem q_17 : Cond.selects RX6 yX6_isJourney yX6_isJourney ∈ oh_t := oh_of (i := 17) (by decide +kernel) rfl
theorem q_22 : Cond.selects RX6 yX6_findBest yX6_findBest ∈ oh_t := oh_of (i := 22) (by decide +kernel) rfl
theorem q_23 : Cond.selects RX6 yX6_whyNotTold yX6_whyNotTold ∈ oh_t := oh_of (i := 23) (by decide +kernel) rfl
theorem q_66 : Cond.initialized RX6 ∈ oh_t := oh_of (i := 66) (by decide +kernel) rfl
theorem q_67 : Cond.initialized RX0 ∈ oh_t := oh_of (i := 67) (by decide +kernel) rfl
theorem q_70 : Cond.initialized RX3 ∈ oh_t := oh_of (i := 70) (by decide +kernel) rfl
theorem q_71 : Cond.initialized RX4 ∈ oh_t := oh_of (i := 71) (by decide +kernel) rfl
theorem q_72 : Cond.initialized RX2 ∈ oh_t := oh_of (i := 72) (by decide +kernel) rfl
theorem q_74 : Cond.initialized RJ10 ∈ oh_t := oh_of (i := 74) (by decide +kernel) rfl
theorem q_97 : Cond.fieldLink RX0 13 "OneHeavyLoad$Land" "counts" "[I" ∈ oh_t := oh_of (i := 97) (by decide +kernel) rfl
theorem q_98 : Cond.fieldLink RX2 29 "OneHeavyLoad$Land" "counts" "[I" ∈ oh_t := oh_of (i := 98) (by decide +kernel) rfl
theorem q_100 : Cond.fieldLink RX6 273 "OneHeavyLoad$Land" "counts" "[I" ∈ oh_t := oh_of (i := 100) (by decide +kernel) rfl
theorem q_101 : Cond.fieldLink RX0 18 "OneHeavyLoad$Land" "roads" "[I" ∈ oh_t := oh_of (i := 101) (by decide +kernel) rfl
theorem q_103 : Cond.fieldLink RX0 21 "OneHeavyLoad$Land" "bridges" "[I" ∈ oh_t := oh_of (i := 103) (by decide +kernel) rfl
theorem q_104 : Cond.fieldLink RX0 24 "OneHeavyLoad$Land" "waggons" "[I" ∈ oh_t := oh_of (i := 104) (by decide +kernel) rfl
theorem q_105 : Cond.fieldLink RX0 27 "OneHeavyLoad$Land" "parts" "[I" ∈ oh_t := oh_of (i := 105) (by decide +kernel) rfl
theorem q_106 : Cond.fieldLink RX0 30 "OneHeavyLoad$Land" "settings" "[I" ∈ oh_t := oh_of (i := 106) (by decide +kernel) rfl
theorem q_107 : Cond.fieldLink RX2 40 "OneHeavyLoad$Land" "settings" "[I" ∈ oh_t := oh_of (i := 107) (by decide +kernel) rfl
theorem q_110 : Cond.fieldLink RX6 156 "OneHeavyLoad$Land" "settings" "[I" ∈ oh_t := oh_of (i := 110) (by decide +kernel) rfl
theorem q_111 : Cond.fieldLink RX0 33 "OneHeavyLoad$Land" "trip" "[I" ∈ oh_t := oh_of (i := 111) (by decide +kernel) rfl
theorem q_112 : Cond.fieldLink RX6 301 "OneHeavyLoad$Land" "trip" "[I" ∈ oh_t := oh_of (i := 112) (by decide +kernel) rfl
theorem q_113 : Cond.fieldLink RX0 36 "OneHeavyLoad$Land" "onWay" "Z" ∈ oh_t := oh_of (i := 113) (by decide +kernel) rfl
theorem q_114 : Cond.fieldLink RX6 304 "OneHeavyLoad$Land" "onWay" "Z" ∈ oh_t := oh_of (i := 114) (by decide +kernel) rfl
theorem q_198 : Cond.fieldLink RX3 9 "OneHeavyLoad$Shelves" "held" "[I" ∈ oh_t := oh_of (i := 198) (by decide +kernel) rfl
theorem q_199 : Cond.fieldLink RX6 109 "OneHeavyLoad$Shelves" "held" "[I" ∈ oh_t := oh_of (i := 199) (by decide +kernel) rfl
theorem q_200 : Cond.fieldLink RX3 15 "OneHeavyLoad$Shelves" "size" "[I" ∈ oh_t := oh_of (i := 200) (by decide +kernel) rfl
theorem q_217 : Cond.fieldLink RX4 9 "OneHeavyLoad$Tape" "bytes" "[I" ∈ oh_t := oh_of (i := 217) (by decide +kernel) rfl
theorem q_218 : Cond.fieldLink RX4 15 "OneHeavyLoad$Tape" "size" "I" ∈ oh_t := oh_of (i := 218) (by decide +kernel) rfl
theorem q_219 : Cond.fieldLink RX6 171 "OneHeavyLoad$Tape" "size" "I" ∈ oh_t := oh_of (i := 219) (by decide +kernel) rfl
theorem q_220 : Cond.fieldLink RX4 19 "OneHeavyLoad$Tape" "fault" "I" ∈ oh_t := oh_of (i := 220) (by decide +kernel) rfl
theorem q_221 : Cond.fieldLink RX6 181 "OneHeavyLoad$Tape" "fault" "I" ∈ oh_t := oh_of (i := 221) (by decide +kernel) rfl
theorem q_222 : Cond.fieldLink RX4 31 "OneHeavyLoad$Tape" "sort" "I" ∈ oh_t := oh_of (i := 222) (by decide +kernel) rfl
theorem q_223 : Cond.fieldLink RX4 28 "OneHeavyLoad$Tape" "start" "I" ∈ oh_t := oh_of (i := 223) (by decide +kernel) rfl
theorem q_224 : Cond.fieldLink RX4 22 "OneHeavyLoad$Tape" "end" "I" ∈ oh_t := oh_of (i := 224) (by decide +kernel) rfl
theorem q_245 : Cond.fieldLink RX2 9 "OneHeavyLoad$Reader" "tape" "LOneHeavyLoad$Tape;" ∈ oh_t := oh_of (i := 245) (by decide +kernel) rfl
theorem q_246 : Cond.fieldLink RX2 15 "OneHeavyLoad$Reader" "land" "LOneHeavyLoad$Land;" ∈ oh_t := oh_of (i := 246) (by decide +kernel) rfl
theorem q_247 : Cond.fieldLink RX2 23 "OneHeavyLoad$Reader" "countsBefore" "[I" ∈ oh_t := oh_of (i := 247) (by decide +kernel) rfl
theorem q_248 : Cond.fieldLink RX2 26 "OneHeavyLoad$Reader" "settingsBefore" "[I" ∈ oh_t := oh_of (i := 248) (by decide +kernel) rfl
theorem q_258 : Cond.fieldLink RX6 10 "OneHeavyLoad" "now" "LOneHeavyLoad$Land;" ∈ oh_t := oh_of (i := 258) (by decide +kernel) rfl
theorem q_259 : Cond.fieldLink RX6 16 "OneHeavyLoad" "kept" "LOneHeavyLoad$Land;" ∈ oh_t := oh_of (i := 259) (by decide +kernel) rfl
theorem q_260 : Cond.fieldLink RX6 19 "OneHeavyLoad" "isKept" "Z" ∈ oh_t := oh_of (i := 260) (by decide +kernel) rfl
theorem q_262 : Cond.fieldLink RX6 35 "OneHeavyLoad" "shelves" "LOneHeavyLoad$Shelves;" ∈ oh_t := oh_of (i := 262) (by decide +kernel) rfl
theorem q_263 : Cond.fieldLink RX6 42 "OneHeavyLoad" "tape" "LOneHeavyLoad$Tape;" ∈ oh_t := oh_of (i := 263) (by decide +kernel) rfl
theorem q_264 : Cond.fieldLink RX6 51 "OneHeavyLoad" "reader" "LOneHeavyLoad$Reader;" ∈ oh_t := oh_of (i := 264) (by decide +kernel) rfl
theorem q_265 : Cond.fieldLink RX6 55 "OneHeavyLoad" "refusals" "[I" ∈ oh_t := oh_of (i := 265) (by decide +kernel) rfl
theorem q_266 : Cond.fieldLink RX6 59 "OneHeavyLoad" "bestPack" "[I" ∈ oh_t := oh_of (i := 266) (by decide +kernel) rfl
theorem q_290 : Cond.methodLink RX6 62 yX6_isShelf ∈ oh_t := oh_of (i := 290) (by decide +kernel) rfl
theorem q_291 : Cond.static yX6_isShelf ∈ oh_t := oh_of (i := 291) (by decide +kernel) rfl
theorem q_292 : Cond.code yX6_isShelf cX6_isShelf 1 (some .boolean) ∈ oh_t := oh_of (i := 292) (by decide +kernel) rfl
theorem q_293 : Cond.methodLink RX6 66 yX6_within ∈ oh_t := oh_of (i := 293) (by decide +kernel) rfl
theorem q_294 : Cond.static yX6_within ∈ oh_t := oh_of (i := 294) (by decide +kernel) rfl
theorem q_295 : Cond.code yX6_within cX6_within 3 (some .boolean) ∈ oh_t := oh_of (i := 295) (by decide +kernel) rfl
theorem q_296 : Cond.methodLink RX6 70 yX6_refuse ∈ oh_t := oh_of (i := 296) (by decide +kernel) rfl
theorem q_298 : Cond.instanceMethod yX6_refuse ∈ oh_t := oh_of (i := 298) (by decide +kernel) rfl
theorem q_299 : Cond.code yX6_refuse cX6_refuse 3 (some .int) ∈ oh_t := oh_of (i := 299) (by decide +kernel) rfl
theorem q_308 : Cond.methodLink RX6 78 yX6_whyNoRow ∈ oh_t := oh_of (i := 308) (by decide +kernel) rfl
theorem q_310 : Cond.instanceMethod yX6_whyNoRow ∈ oh_t := oh_of (i := 310) (by decide +kernel) rfl
theorem q_311 : Cond.code yX6_whyNoRow cX6_whyNoRow 2 (some .int) ∈ oh_t := oh_of (i := 311) (by decide +kernel) rfl
theorem q_312 : Cond.methodLink RX6 88 yX3_holdsBridge ∈ oh_t := oh_of (i := 312) (by decide +kernel) rfl
theorem q_313 : Cond.instanceMethod yX3_holdsBridge ∈ oh_t := oh_of (i := 313) (by decide +kernel) rfl
theorem q_314 : Cond.selects RX3 yX3_holdsBridge yX3_holdsBridge ∈ oh_t := oh_of (i := 314) (by decide +kernel) rfl
theorem q_315 : Cond.code yX3_holdsBridge cX3_holdsBridge 2 (some .boolean) ∈ oh_t := oh_of (i := 315) (by decide +kernel) rfl
theorem q_316 : Cond.methodLink RX6 95 yX3_holdsNothing ∈ oh_t := oh_of (i := 316) (by decide +kernel) rfl
theorem q_317 : Cond.instanceMethod yX3_holdsNothing ∈ oh_t := oh_of (i := 317) (by decide +kernel) rfl
theorem q_318 : Cond.selects RX3 yX3_holdsNothing yX3_holdsNothing ∈ oh_t := oh_of (i := 318) (by decide +kernel) rfl
theorem q_319 : Cond.code yX3_holdsNothing cX3_holdsNothing 2 (some .boolean) ∈ oh_t := oh_of (i := 319) (by decide +kernel) rfl
theorem q_331 : Cond.methodLink RX6 91 yX3_holdsUnlikeRows ∈ oh_t := oh_of (i := 331) (by decide +kernel) rfl
theorem q_332 : Cond.instanceMethod yX3_holdsUnlikeRows ∈ oh_t := oh_of (i := 332) (by decide +kernel) rfl
theorem q_333 : Cond.selects RX3 yX3_holdsUnlikeRows yX3_holdsUnlikeRows ∈ oh_t := oh_of (i := 333) (by decide +kernel) rfl
theorem q_334 : Cond.code yX3_holdsUnlikeRows cX3_holdsUnlikeRows 3 (some .boolean) ∈ oh_t := oh_of (i := 334) (by decide +kernel) rfl
theorem q_335 : Cond.methodLink RX3 29 yX3_holdsRow ∈ oh_t := oh_of (i := 335) (by decide +kernel) rfl
theorem q_336 : Cond.instanceMethod yX3_holdsRow ∈ oh_t := oh_of (i := 336) (by decide +kernel) rfl
theorem q_337 : Cond.selects RX3 yX3_holdsRow yX3_holdsRow ∈ oh_t := oh_of (i := 337) (by decide +kernel) rfl
theorem q_338 : Cond.code yX3_holdsRow cX3_holdsRow 2 (some .boolean) ∈ oh_t := oh_of (i := 338) (by decide +kernel) rfl
theorem q_339 : Cond.methodLink RX3 22 yX3_holdsNothing ∈ oh_t := oh_of (i := 339) (by decide +kernel) rfl
theorem q_346 : Cond.static arraycopyName ∈ oh_t := oh_of (i := 346) (by decide +kernel) rfl
theorem q_347 : Cond.native arraycopyName ∈ oh_t := oh_of (i := 347) (by decide +kernel) rfl
theorem q_352 : Cond.methodLink RX6 102 yX3_holdsRow ∈ oh_t := oh_of (i := 352) (by decide +kernel) rfl
theorem q_366 : Cond.methodLink RX6 112 yX6_isBridge ∈ oh_t := oh_of (i := 366) (by decide +kernel) rfl
theorem q_368 : Cond.instanceMethod yX6_isBridge ∈ oh_t := oh_of (i := 368) (by decide +kernel) rfl
theorem q_369 : Cond.code yX6_isBridge cX6_isBridge 2 (some .boolean) ∈ oh_t := oh_of (i := 369) (by decide +kernel) rfl
theorem q_370 : Cond.methodLink RX6 115 yX3_putBridge ∈ oh_t := oh_of (i := 370) (by decide +kernel) rfl
theorem q_371 : Cond.instanceMethod yX3_putBridge ∈ oh_t := oh_of (i := 371) (by decide +kernel) rfl
theorem q_372 : Cond.selects RX3 yX3_putBridge yX3_putBridge ∈ oh_t := oh_of (i := 372) (by decide +kernel) rfl
theorem q_373 : Cond.code yX3_putBridge cX3_putBridge 3 none ∈ oh_t := oh_of (i := 373) (by decide +kernel) rfl
theorem q_413 : Cond.methodLink RX6 126 yX6_isPlace ∈ oh_t := oh_of (i := 413) (by decide +kernel) rfl
theorem q_414 : Cond.static yX6_isPlace ∈ oh_t := oh_of (i := 414) (by decide +kernel) rfl
theorem q_415 : Cond.code yX6_isPlace cX6_isPlace 1 (some .boolean) ∈ oh_t := oh_of (i := 415) (by decide +kernel) rfl
theorem q_416 : Cond.methodLink RX6 129 yX0_hasRoom ∈ oh_t := oh_of (i := 416) (by decide +kernel) rfl
theorem q_417 : Cond.instanceMethod yX0_hasRoom ∈ oh_t := oh_of (i := 417) (by decide +kernel) rfl
theorem q_418 : Cond.selects RX0 yX0_hasRoom yX0_hasRoom ∈ oh_t := oh_of (i := 418) (by decide +kernel) rfl
theorem q_419 : Cond.code yX0_hasRoom cX0_hasRoom 2 (some .boolean) ∈ oh_t := oh_of (i := 419) (by decide +kernel) rfl
theorem q_420 : Cond.methodLink RX6 132 yX0_addRoad ∈ oh_t := oh_of (i := 420) (by decide +kernel) rfl
theorem q_421 : Cond.instanceMethod yX0_addRoad ∈ oh_t := oh_of (i := 421) (by decide +kernel) rfl
theorem q_422 : Cond.selects RX0 yX0_addRoad yX0_addRoad ∈ oh_t := oh_of (i := 422) (by decide +kernel) rfl
theorem q_423 : Cond.code yX0_addRoad cX0_addRoad 8 (some .int) ∈ oh_t := oh_of (i := 423) (by decide +kernel) rfl
theorem q_428 : Cond.methodLink RX6 136 yX6_isRoad ∈ oh_t := oh_of (i := 428) (by decide +kernel) rfl
theorem q_430 : Cond.instanceMethod yX6_isRoad ∈ oh_t := oh_of (i := 430) (by decide +kernel) rfl
theorem q_431 : Cond.code yX6_isRoad cX6_isRoad 2 (some .boolean) ∈ oh_t := oh_of (i := 431) (by decide +kernel) rfl
theorem q_452 : Cond.methodLink RX6 146 yX0_addWaggon ∈ oh_t := oh_of (i := 452) (by decide +kernel) rfl
theorem q_453 : Cond.instanceMethod yX0_addWaggon ∈ oh_t := oh_of (i := 453) (by decide +kernel) rfl
theorem q_454 : Cond.selects RX0 yX0_addWaggon yX0_addWaggon ∈ oh_t := oh_of (i := 454) (by decide +kernel) rfl
theorem q_455 : Cond.code yX0_addWaggon cX0_addWaggon 5 (some .int) ∈ oh_t := oh_of (i := 455) (by decide +kernel) rfl
theorem q_460 : Cond.methodLink RX6 150 yX0_addPart ∈ oh_t := oh_of (i := 460) (by decide +kernel) rfl
theorem q_461 : Cond.instanceMethod yX0_addPart ∈ oh_t := oh_of (i := 461) (by decide +kernel) rfl
theorem q_462 : Cond.selects RX0 yX0_addPart yX0_addPart ∈ oh_t := oh_of (i := 462) (by decide +kernel) rfl
theorem q_463 : Cond.code yX0_addPart cX0_addPart 4 (some .int) ∈ oh_t := oh_of (i := 463) (by decide +kernel) rfl
theorem q_468 : Cond.fieldLink RX6 153 "OneHeavyLoad" "MAX_SETTING" "[I" ∈ oh_t := oh_of (i := 468) (by decide +kernel) rfl
theorem q_487 : Cond.methodLink RX6 174 yX4_append ∈ oh_t := oh_of (i := 487) (by decide +kernel) rfl
theorem q_488 : Cond.instanceMethod yX4_append ∈ oh_t := oh_of (i := 488) (by decide +kernel) rfl
theorem q_489 : Cond.selects RX4 yX4_append yX4_append ∈ oh_t := oh_of (i := 489) (by decide +kernel) rfl
theorem q_490 : Cond.code yX4_append cX4_append 4 none ∈ oh_t := oh_of (i := 490) (by decide +kernel) rfl
theorem q_499 : Cond.methodLink RX6 177 yX2_read ∈ oh_t := oh_of (i := 499) (by decide +kernel) rfl
theorem q_500 : Cond.instanceMethod yX2_read ∈ oh_t := oh_of (i := 500) (by decide +kernel) rfl
theorem q_501 : Cond.selects RX2 yX2_read yX2_read ∈ oh_t := oh_of (i := 501) (by decide +kernel) rfl
theorem q_502 : Cond.code yX2_read cX2_read 2 (some .int) ∈ oh_t := oh_of (i := 502) (by decide +kernel) rfl
theorem q_503 : Cond.methodLink RX2 34 arraycopyName ∈ oh_t := oh_of (i := 503) (by decide +kernel) rfl
theorem q_504 : Cond.methodLink RX2 43 yX4_rewind ∈ oh_t := oh_of (i := 504) (by decide +kernel) rfl
theorem q_505 : Cond.instanceMethod yX4_rewind ∈ oh_t := oh_of (i := 505) (by decide +kernel) rfl
theorem q_506 : Cond.selects RX4 yX4_rewind yX4_rewind ∈ oh_t := oh_of (i := 506) (by decide +kernel) rfl
theorem q_507 : Cond.code yX4_rewind cX4_rewind 1 none ∈ oh_t := oh_of (i := 507) (by decide +kernel) rfl
theorem q_508 : Cond.methodLink RX4 25 yX4_advance ∈ oh_t := oh_of (i := 508) (by decide +kernel) rfl
theorem q_509 : Cond.instanceMethod yX4_advance ∈ oh_t := oh_of (i := 509) (by decide +kernel) rfl
theorem q_510 : Cond.selects RX4 yX4_advance yX4_advance ∈ oh_t := oh_of (i := 510) (by decide +kernel) rfl
theorem q_511 : Cond.code yX4_advance cX4_advance 1 none ∈ oh_t := oh_of (i := 511) (by decide +kernel) rfl
theorem q_512 : Cond.methodLink RX2 48 yX2_readStatement ∈ oh_t := oh_of (i := 512) (by decide +kernel) rfl
theorem q_514 : Cond.instanceMethod yX2_readStatement ∈ oh_t := oh_of (i := 514) (by decide +kernel) rfl
theorem q_515 : Cond.code yX2_readStatement cX2_readStatement 1 none ∈ oh_t := oh_of (i := 515) (by decide +kernel) rfl
theorem q_517 : Cond.methodLink RX2 63 yX4_isWord ∈ oh_t := oh_of (i := 517) (by decide +kernel) rfl
theorem q_518 : Cond.instanceMethod yX4_isWord ∈ oh_t := oh_of (i := 518) (by decide +kernel) rfl
theorem q_519 : Cond.selects RX4 yX4_isWord yX4_isWord ∈ oh_t := oh_of (i := 519) (by decide +kernel) rfl
theorem q_520 : Cond.code yX4_isWord cX4_isWord 3 (some .boolean) ∈ oh_t := oh_of (i := 520) (by decide +kernel) rfl
theorem q_579 : Cond.methodLink RX2 96 yX4_fail ∈ oh_t := oh_of (i := 579) (by decide +kernel) rfl
theorem q_580 : Cond.instanceMethod yX4_fail ∈ oh_t := oh_of (i := 580) (by decide +kernel) rfl
theorem q_581 : Cond.selects RX4 yX4_fail yX4_fail ∈ oh_t := oh_of (i := 581) (by decide +kernel) rfl
theorem q_582 : Cond.code yX4_fail cX4_fail 1 none ∈ oh_t := oh_of (i := 582) (by decide +kernel) rfl
theorem q_592 : Cond.instanceMethod yX4_isSound ∈ oh_t := oh_of (i := 592) (by decide +kernel) rfl
theorem q_593 : Cond.selects RX4 yX4_isSound yX4_isSound ∈ oh_t := oh_of (i := 593) (by decide +kernel) rfl
theorem q_594 : Cond.code yX4_isSound cX4_isSound 1 (some .boolean) ∈ oh_t := oh_of (i := 594) (by decide +kernel) rfl
theorem q_607 : Cond.methodLink RX4 47 yX4_isWord ∈ oh_t := oh_of (i := 607) (by decide +kernel) rfl
theorem q_613 : Cond.methodLink RX2 87 yX4_takeWordIfThere ∈ oh_t := oh_of (i := 613) (by decide +kernel) rfl
theorem q_614 : Cond.instanceMethod yX4_takeWordIfThere ∈ oh_t := oh_of (i := 614) (by decide +kernel) rfl
theorem q_615 : Cond.selects RX4 yX4_takeWordIfThere yX4_takeWordIfThere ∈ oh_t := oh_of (i := 615) (by decide +kernel) rfl
theorem q_616 : Cond.code yX4_takeWordIfThere cX4_takeWordIfThere 3 (some .boolean) ∈ oh_t := oh_of (i := 616) (by decide +kernel) rfl
theorem q_619 : Cond.methodLink RX2 51 yX4_isSound ∈ oh_t := oh_of (i := 619) (by decide +kernel) rfl
theorem q_679 : Cond.methodLink RX6 194 yX6_isWaggon ∈ oh_t := oh_of (i := 679) (by decide +kernel) rfl
theorem q_681 : Cond.instanceMethod yX6_isWaggon ∈ oh_t := oh_of (i := 681) (by decide +kernel) rfl
theorem q_682 : Cond.code yX6_isWaggon cX6_isWaggon 2 (some .boolean) ∈ oh_t := oh_of (i := 682) (by decide +kernel) rfl
theorem q_695 : Cond.methodLink RX6 200 yX6_isPack ∈ oh_t := oh_of (i := 695) (by decide +kernel) rfl
theorem q_697 : Cond.instanceMethod yX6_isPack ∈ oh_t := oh_of (i := 697) (by decide +kernel) rfl
theorem q_698 : Cond.code yX6_isPack cX6_isPack 3 (some .boolean) ∈ oh_t := oh_of (i := 698) (by decide +kernel) rfl
theorem q_776 : Cond.methodLink RX6 238 yX6_isJourney ∈ oh_t := oh_of (i := 776) (by decide +kernel) rfl
theorem q_778 : Cond.instanceMethod yX6_isJourney ∈ oh_t := oh_of (i := 778) (by decide +kernel) rfl
theorem q_779 : Cond.code yX6_isJourney cX6_isJourney 5 (some .boolean) ∈ oh_t := oh_of (i := 779) (by decide +kernel) rfl
theorem q_803 : Cond.constant RX6 255 1000000000 ∈ oh_t := oh_of (i := 803) (by decide +kernel) rfl
theorem q_821 : Cond.methodLink RX6 252 yX6_findBest ∈ oh_t := oh_of (i := 821) (by decide +kernel) rfl
theorem q_823 : Cond.instanceMethod yX6_findBest ∈ oh_t := oh_of (i := 823) (by decide +kernel) rfl
theorem q_824 : Cond.code yX6_findBest cX6_findBest 6 none ∈ oh_t := oh_of (i := 824) (by decide +kernel) rfl
theorem q_830 : Cond.methodLink RX6 256 yX6_whyNotTold ∈ oh_t := oh_of (i := 830) (by decide +kernel) rfl
theorem q_832 : Cond.instanceMethod yX6_whyNotTold ∈ oh_t := oh_of (i := 832) (by decide +kernel) rfl
theorem q_833 : Cond.code yX6_whyNotTold cX6_whyNotTold 7 (some .int) ∈ oh_t := oh_of (i := 833) (by decide +kernel) rfl
theorem q_937 : Cond.methodLink RX6 314 yX0_become ∈ oh_t := oh_of (i := 937) (by decide +kernel) rfl
theorem q_938 : Cond.instanceMethod yX0_become ∈ oh_t := oh_of (i := 938) (by decide +kernel) rfl
theorem q_939 : Cond.selects RX0 yX0_become yX0_become ∈ oh_t := oh_of (i := 939) (by decide +kernel) rfl
theorem q_940 : Cond.code yX0_become cX0_become 2 none ∈ oh_t := oh_of (i := 940) (by decide +kernel) rfl
theorem q_941 : Cond.methodLink RX0 40 arraycopyName ∈ oh_t := oh_of (i := 941) (by decide +kernel) rfl
theorem q_955 : Cond.methodLink RX6 320 yX3_countHeld ∈ oh_t := oh_of (i := 955) (by decide +kernel) rfl
theorem q_956 : Cond.instanceMethod yX3_countHeld ∈ oh_t := oh_of (i := 956) (by decide +kernel) rfl
theorem q_957 : Cond.selects RX3 yX3_countHeld yX3_countHeld ∈ oh_t := oh_of (i := 957) (by decide +kernel) rfl
theorem q_958 : Cond.code yX3_countHeld cX3_countHeld 3 (some .int) ∈ oh_t := oh_of (i := 958) (by decide +kernel) rfl
theorem q_959 : Cond.methodLink RX6 323 yX0_countBridges ∈ oh_t := oh_of (i := 959) (by decide +kernel) rfl
theorem q_960 : Cond.instanceMethod yX0_countBridges ∈ oh_t := oh_of (i := 960) (by decide +kernel) rfl
theorem q_961 : Cond.selects RX0 yX0_countBridges yX0_countBridges ∈ oh_t := oh_of (i := 961) (by decide +kernel) rfl
theorem q_962 : Cond.code yX0_countBridges cX0_countBridges 4 (some .int) ∈ oh_t := oh_of (i := 962) (by decide +kernel) rfl
theorem pdVX0_addPart : yX0_addPart.cls = RX0 ∧ yX0_addPart.cls ≠ "java/lang/invoke/MethodHandle" ∧ yX0_addPart.cls ≠ "java/lang/invoke/VarHandle" ∧ (parseMethodDescriptor yX0_addPart.desc).map (fun d => d.parameters.length) = some 2 := by decide +kernel
theorem pdVX0_addRoad : yX0_addRoad.cls = RX0 ∧ yX0_addRoad.cls ≠ "java/lang/invoke/MethodHandle" ∧ yX0_addRoad.cls ≠ "java/lang/invoke/VarHandle" ∧ (parseMethodDescriptor yX0_addRoad.desc).map (fun d => d.parameters.length) = some 6 := by decide +kernel
theorem pdVX0_addWaggon : yX0_addWaggon.cls = RX0 ∧ yX0_addWaggon.cls ≠ "java/lang/invoke/MethodHandle" ∧ yX0_addWaggon.cls ≠ "java/lang/invoke/VarHandle" ∧ (parseMethodDescriptor yX0_addWaggon.desc).map (fun d => d.parameters.length) = some 3 := by decide +kernel
theorem pdVX0_become : yX0_become.cls = RX0 ∧ yX0_become.cls ≠ "java/lang/invoke/MethodHandle" ∧ yX0_become.cls ≠ "java/lang/invoke/VarHandle" ∧ (parseMethodDescriptor yX0_become.desc).map (fun d => d.parameters.length) = some 1 := by decide +kernel
theorem pdVX0_countBridges : yX0_countBridges.cls = RX0 ∧ yX0_countBridges.cls ≠ "java/lang/invoke/MethodHandle" ∧ yX0_countBridges.cls ≠ "java/lang/invoke/VarHandle" ∧ (parseMethodDescriptor yX0_countBridges.desc).map (fun d => d.parameters.length) = some 1 := by decide +kernel
theorem pdVX0_hasRoom : yX0_hasRoom.cls = RX0 ∧ yX0_hasRoom.cls ≠ "java/lang/invoke/MethodHandle" ∧ yX0_hasRoom.cls ≠ "java/lang/invoke/VarHandle" ∧ (parseMethodDescriptor yX0_hasRoom.desc).map (fun d => d.parameters.length) = some 1 := by decide +kernel
theorem pdVX2_read : yX2_read.cls = RX2 ∧ yX2_read.cls ≠ "java/lang/invoke/MethodHandle" ∧ yX2_read.cls ≠ "java/lang/invoke/VarHandle" ∧ (parseMethodDescriptor yX2_read.desc).map (fun d => d.parameters.length) = some 0 := by decide +kernel
theorem pdVX2_readStatement : yX2_readStatement.cls = RX2 ∧ yX2_readStatement.cls ≠ "java/lang/invoke/MethodHandle" ∧ yX2_readStatement.cls ≠ "java/lang/invoke/VarHandle" ∧ (parseMethodDescriptor yX2_readStatement.desc).map (fun d => d.parameters.length) = some 0 := by decide +kernel
theorem pdVX3_countHeld : yX3_countHeld.cls = RX3 ∧ yX3_countHeld.cls ≠ "java/lang/invoke/MethodHandle" ∧ yX3_countHeld.cls ≠ "java/lang/invoke/VarHandle" ∧ (parseMethodDescriptor yX3_countHeld.desc).map (fun d => d.parameters.length) = some 0 := by decide +kernel
theorem pdVX3_holdsBridge : yX3_holdsBridge.cls = RX3 ∧ yX3_holdsBridge.cls ≠ "java/lang/invoke/MethodHandle" ∧ yX3_holdsBridge.cls ≠ "java/lang/invoke/VarHandle" ∧ (parseMethodDescriptor yX3_holdsBridge.desc).map (fun d => d.parameters.length) = some 1 := by decide +kernel
theorem pdVX3_holdsNothing : yX3_holdsNothing.cls = RX3 ∧ yX3_holdsNothing.cls ≠ "java/lang/invoke/MethodHandle" ∧ yX3_holdsNothing.cls ≠ "java/lang/invoke/VarHandle" ∧ (parseMethodDescriptor yX3_holdsNothing.desc).map (fun d => d.parameters.length) = some 1 := by decide +kernel
theorem pdVX3_holdsRow : yX3_holdsRow.cls = RX3 ∧ yX3_holdsRow.cls ≠ "java/lang/invoke/MethodHandle" ∧ yX3_holdsRow.cls ≠ "java/lang/invoke/VarHandle" ∧ (parseMethodDescriptor yX3_holdsRow.desc).map (fun d => d.parameters.length) = some 1 := by decide +kernel
theorem pdVX3_holdsUnlikeRows : yX3_holdsUnlikeRows.cls = RX3 ∧ yX3_holdsUnlikeRows.cls ≠ "java/lang/invoke/MethodHandle" ∧ yX3_holdsUnlikeRows.cls ≠ "java/lang/invoke/VarHandle" ∧ (parseMethodDescriptor yX3_holdsUnlikeRows.desc).map (fun d => d.parameters.length) = some 2 := by decide +kernel
theorem pdVX3_putBridge : yX3_putBridge.cls = RX3 ∧ yX3_putBridge.cls ≠ "java/lang/invoke/MethodHandle" ∧ yX3_putBridge.cls ≠ "java/lang/invoke/VarHandle" ∧ (parseMethodDescriptor yX3_putBridge.desc).map (fun d => d.parameters.length) = some 2 := by decide +kernel
theorem pdVX4_advance : yX4_advance.cls = RX4 ∧ yX4_advance.cls ≠ "java/lang/invoke/MethodHandle" ∧ yX4_advance.cls ≠ "java/lang/invoke/VarHandle" ∧ (parseMethodDescriptor yX4_advance.desc).map (fun d => d.parameters.length) = some 0 := by decide +kernel
theorem pdVX4_append : yX4_append.cls = RX4 ∧ yX4_append.cls ≠ "java/lang/invoke/MethodHandle" ∧ yX4_append.cls ≠ "java/lang/invoke/VarHandle" ∧ (parseMethodDescriptor yX4_append.desc).map (fun d => d.parameters.length) = some 2 := by decide +kernel
theorem pdVX4_fail : yX4_fail.cls = RX4 ∧ yX4_fail.cls ≠ "java/lang/invoke/MethodHandle" ∧ yX4_fail.cls ≠ "java/lang/invoke/VarHandle" ∧ (parseMethodDescriptor yX4_fail.desc).map (fun d => d.parameters.length) = some 0 := by decide +kernel
theorem pdVX4_isSound : yX4_isSound.cls = RX4 ∧ yX4_isSound.cls ≠ "java/lang/invoke/MethodHandle" ∧ yX4_isSound.cls ≠ "java/lang/invoke/VarHandle" ∧ (parseMethodDescriptor yX4_isSound.desc).map (fun d => d.parameters.length) = some 0 := by decide +kernel
theorem pdVX4_isWord : yX4_isWord.cls = RX4 ∧ yX4_isWord.cls ≠ "java/lang/invoke/MethodHandle" ∧ yX4_isWord.cls ≠ "java/lang/invoke/VarHandle" ∧ (parseMethodDescriptor yX4_isWord.desc).map (fun d => d.parameters.length) = some 1 := by decide +kernel
theorem pdVX4_rewind : yX4_rewind.cls = RX4 ∧ yX4_rewind.cls ≠ "java/lang/invoke/MethodHandle" ∧ yX4_rewind.cls ≠ "java/lang/invoke/VarHandle" ∧ (parseMethodDescriptor yX4_rewind.desc).map (fun d => d.parameters.length) = some 0 := by decide +kernel
theorem pdVX4_takeWordIfThere : yX4_takeWordIfThere.cls = RX4 ∧ yX4_takeWordIfThere.cls ≠ "java/lang/invoke/MethodHandle" ∧ yX4_takeWordIfThere.cls ≠ "java/lang/invoke/VarHandle" ∧ (parseMethodDescriptor yX4_takeWordIfThere.desc).map (fun d => d.parameters.length) = some 1 := by decide +kernel
theorem pdVX6_findBest : yX6_findBest.cls = RX6 ∧ yX6_findBest.cls ≠ "java/lang/invoke/MethodHandle" ∧ yX6_findBest.cls ≠ "java/lang/invoke/VarHandle" ∧ (parseMethodDescriptor yX6_findBest.desc).map (fun d => d.parameters.length) = some 2 := by decide +kernel
theorem pdVX6_isBridge : yX6_isBridge.cls = RX6 ∧ yX6_isBridge.cls ≠ "java/lang/invoke/MethodHandle" ∧ yX6_isBridge.cls ≠ "java/lang/invoke/VarHandle" ∧ (parseMethodDescriptor yX6_isBridge.desc).map (fun d => d.parameters.length) = some 1 := by decide +kernel
theorem pdVX6_isJourney : yX6_isJourney.cls = RX6 ∧ yX6_isJourney.cls ≠ "java/lang/invoke/MethodHandle" ∧ yX6_isJourney.cls ≠ "java/lang/invoke/VarHandle" ∧ (parseMethodDescriptor yX6_isJourney.desc).map (fun d => d.parameters.length) = some 4 := by decide +kernel
theorem pdVX6_isPack : yX6_isPack.cls = RX6 ∧ yX6_isPack.cls ≠ "java/lang/invoke/MethodHandle" ∧ yX6_isPack.cls ≠ "java/lang/invoke/VarHandle" ∧ (parseMethodDescriptor yX6_isPack.desc).map (fun d => d.parameters.length) = some 2 := by decide +kernel
theorem pdX6_isPlace : yX6_isPlace.cls ≠ "java/lang/invoke/MethodHandle" ∧ yX6_isPlace.cls ≠ "java/lang/invoke/VarHandle" ∧ (parseMethodDescriptor yX6_isPlace.desc).map (fun d => d.parameters.length) = some 1 := by decide +kernel
theorem pdVX6_isRoad : yX6_isRoad.cls = RX6 ∧ yX6_isRoad.cls ≠ "java/lang/invoke/MethodHandle" ∧ yX6_isRoad.cls ≠ "java/lang/invoke/VarHandle" ∧ (parseMethodDescriptor yX6_isRoad.desc).map (fun d => d.parameters.length) = some 1 := by decide +kernel
theorem pdX6_isShelf : yX6_isShelf.cls ≠ "java/lang/invoke/MethodHandle" ∧ yX6_isShelf.cls ≠ "java/lang/invoke/VarHandle" ∧ (parseMethodDescriptor yX6_isShelf.desc).map (fun d => d.parameters.length) = some 1 := by decide +kernel
theorem pdVX6_isWaggon : yX6_isWaggon.cls = RX6 ∧ yX6_isWaggon.cls ≠ "java/lang/invoke/MethodHandle" ∧ yX6_isWaggon.cls ≠ "java/lang/invoke/VarHandle" ∧ (parseMethodDescriptor yX6_isWaggon.desc).map (fun d => d.parameters.length) = some 1 := by decide +kernel
theorem pdVX6_refuse : yX6_refuse.cls = RX6 ∧ yX6_refuse.cls ≠ "java/lang/invoke/MethodHandle" ∧ yX6_refuse.cls ≠ "java/lang/invoke/VarHandle" ∧ (parseMethodDescriptor yX6_refuse.desc).map (fun d => d.parameters.length) = some 1 := by decide +kernel
theorem pdVX6_whyNoRow : yX6_whyNoRow.cls = RX6 ∧ yX6_whyNoRow.cls ≠ "java/lang/invoke/MethodHandle" ∧ yX6_whyNoRow.cls ≠ "java/lang/invoke/VarHandle" ∧ (parseMethodDescriptor yX6_whyNoRow.desc).map (fun d => d.parameters.length) = some 1 := by decide +kernel
theorem pdVX6_whyNotTold : yX6_whyNotTold.cls = RX6 ∧ yX6_whyNotTold.cls ≠ "java/lang/invoke/MethodHandle" ∧ yX6_whyNotTold.cls ≠ "java/lang/invoke/VarHandle" ∧ (parseMethodDescriptor yX6_whyNotTold.desc).map (fun d => d.parameters.length) = some 5 := by decide +kernel
theorem pdX6_within : yX6_within.cls ≠ "java/lang/invoke/MethodHandle" ∧ yX6_within.cls ≠ "java/lang/invoke/VarHandle" ∧ (parseMethodDescriptor yX6_within.desc).map (fun d => d.parameters.length) = some 3 := by decide +kernel
