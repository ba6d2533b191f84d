/-! ===== links, fields, constants, methods, looked up ===== -/
theorem L0_3 : zlk 0 3 = some (1004, 0) := by decide +kernel
theorem L0_37 : zlk 0 37 = some (kX5_strengthOf, 0) := by decide +kernel
theorem L0_41 : zlk 0 41 = some (kX5_keepOf, 0) := by decide +kernel
theorem L0_45 : zlk 0 45 = some (kX0_passHour, 0) := by decide +kernel
theorem L0_48 : zlk 0 48 = some (kX0_listScents, 0) := by decide +kernel
theorem L0_51 : zlk 0 51 = some (kJ7_fill_e525d, 0) := by decide +kernel
theorem L1_3 : zlk 1 3 = some (1004, 0) := by decide +kernel
theorem L1_11 : zlk 1 11 = some (kX5_init, 1) := by decide +kernel
theorem L1_26 : zlk 1 26 = some (kX9_init, 0) := by decide +kernel
theorem L1_33 : zlk 1 33 = some (kX6_init, 1) := by decide +kernel
theorem L1_38 : zlk 1 38 = some (kX3_init, 1) := by decide +kernel
theorem L1_39 : zlk 1 39 = some (kX5_takeFrom, 0) := by decide +kernel
theorem L1_43 : zlk 1 43 = some (kX3_takeFrom, 0) := by decide +kernel
theorem L1_46 : zlk 1 46 = some (kX9_takeFrom, 0) := by decide +kernel
theorem L1_49 : zlk 1 49 = some (kX6_takeFrom, 0) := by decide +kernel
theorem L1_52 : zlk 1 52 = some (kX3_dropsOfFamily, 0) := by decide +kernel
theorem L1_64 : zlk 1 64 = some (kX1_brokenBy, 0) := by decide +kernel
theorem L1_68 : zlk 1 68 = some (kX9_firstLacking, 0) := by decide +kernel
theorem L1_72 : zlk 1 72 = some (kX6_listInTurn, 0) := by decide +kernel
theorem L1_85 : zlk 1 85 = some (kX1_canMake, 0) := by decide +kernel
theorem L1_89 : zlk 1 89 = some (kX9_take, 0) := by decide +kernel
theorem L1_96 : zlk 1 96 = some (kX3_isOfShape, 0) := by decide +kernel
theorem L1_100 : zlk 1 100 = some (kX1_othersOfShape, 0) := by decide +kernel
theorem L1_104 : zlk 1 104 = some (kX1_rankOf, 0) := by decide +kernel
theorem L1_108 : zlk 1 108 = some (kX1_isRankedAhead, 0) := by decide +kernel
theorem L2_3 : zlk 2 3 = some (1004, 0) := by decide +kernel
theorem L2_11 : zlk 2 11 = some (kX3_init, 1) := by decide +kernel
theorem L2_32 : zlk 2 32 = some (kX3_put, 0) := by decide +kernel
theorem L2_36 : zlk 2 36 = some (kX2_giveToGreatestRest, 0) := by decide +kernel
theorem L2_40 : zlk 2 40 = some (kX3_takeFrom, 0) := by decide +kernel
theorem L2_57 : zlk 2 57 = some (kX2_doPart, 0) := by decide +kernel
theorem L2_61 : zlk 2 61 = some (kX2_become, 0) := by decide +kernel
theorem L2_65 : zlk 2 65 = some (kX2_shareOut, 0) := by decide +kernel
theorem L2_69 : zlk 2 69 = some (kX2_addAll, 0) := by decide +kernel
theorem L2_73 : zlk 2 73 = some (kX11_isWithin, 1) := by decide +kernel
theorem L3_3 : zlk 3 3 = some (1004, 0) := by decide +kernel
theorem L3_19 : zlk 3 19 = some (1000, 0) := by decide +kernel
theorem L3_33 : zlk 3 33 = some (kX3_shareOf, 0) := by decide +kernel
theorem L3_37 : zlk 3 37 = some (kX11_amountBetween, 1) := by decide +kernel
theorem L4_3 : zlk 4 3 = some (1004, 0) := by decide +kernel
theorem L4_11 : zlk 4 11 = some (kX3_init, 1) := by decide +kernel
theorem L4_22 : zlk 4 22 = some (kX3_distanceTo, 0) := by decide +kernel
theorem L4_26 : zlk 4 26 = some (kX3_takeFrom, 0) := by decide +kernel
theorem L4_34 : zlk 4 34 = some (kX3_put, 0) := by decide +kernel
theorem L4_38 : zlk 4 38 = some (kX3_notesWithDrops, 0) := by decide +kernel
theorem L5_3 : zlk 5 3 = some (1004, 0) := by decide +kernel
theorem L5_33 : zlk 5 33 = some (kX5_codeOf, 0) := by decide +kernel
theorem L5_37 : zlk 5 37 = some (kX5_isAheadInOrgan, 0) := by decide +kernel
theorem L5_41 : zlk 5 41 = some (kX5_placeInOrgan, 0) := by decide +kernel
theorem L5_45 : zlk 5 45 = some (kX5_placeByName, 0) := by decide +kernel
theorem L5_48 : zlk 5 48 = some (kX5_keepOf, 0) := by decide +kernel
theorem L5_52 : zlk 5 52 = some (kX11_amountBetween, 1) := by decide +kernel
theorem L5_56 : zlk 5 56 = some (1000, 0) := by decide +kernel
theorem L6_3 : zlk 6 3 = some (1004, 0) := by decide +kernel
theorem L6_31 : zlk 6 31 = some (kX11_isWithin, 1) := by decide +kernel
theorem L6_35 : zlk 6 35 = some (1000, 0) := by decide +kernel
theorem L7_3 : zlk 7 3 = some (1004, 0) := by decide +kernel
theorem L7_36 : zlk 7 36 = some (kX7_readHead, 0) := by decide +kernel
theorem L7_40 : zlk 7 40 = some (kX7_readNumber, 0) := by decide +kernel
theorem L7_52 : zlk 7 52 = some (kX10_at, 0) := by decide +kernel
theorem L7_55 : zlk 7 55 = some (kX7_keepHead, 0) := by decide +kernel
theorem L7_59 : zlk 7 59 = some (kX7_readAccord, 0) := by decide +kernel
theorem L7_62 : zlk 7 62 = some (kX11_isLetter, 1) := by decide +kernel
theorem L7_66 : zlk 7 66 = some (kX7_readNote, 0) := by decide +kernel
theorem L7_69 : zlk 7 69 = some (kX10_wordAt, 0) := by decide +kernel
theorem L7_73 : zlk 7 73 = some (kX5_withName, 0) := by decide +kernel
theorem L7_79 : zlk 7 79 = some (kX11_isFigure, 1) := by decide +kernel
theorem L8_3 : zlk 8 3 = some (1004, 0) := by decide +kernel
theorem L8_15 : zlk 8 15 = some (kJ7_fill_53178, 0) := by decide +kernel
theorem L8_32 : zlk 8 32 = some (1000, 0) := by decide +kernel
theorem L8_38 : zlk 8 38 = some (kX11_bitsOf, 1) := by decide +kernel
theorem L9_3 : zlk 9 3 = some (1004, 0) := by decide +kernel
theorem L9_27 : zlk 9 27 = some (kJ7_fill_53178, 0) := by decide +kernel
theorem L9_38 : zlk 9 38 = some (kJ9_min_7cf53, 0) := by decide +kernel
theorem L9_48 : zlk 9 48 = some (kX9_write, 0) := by decide +kernel
theorem L9_55 : zlk 9 55 = some (1000, 0) := by decide +kernel
theorem L10_3 : zlk 10 3 = some (1004, 0) := by decide +kernel
theorem L10_19 : zlk 10 19 = some (kX10_append, 0) := by decide +kernel
theorem L10_23 : zlk 10 23 = some (kX10_at, 0) := by decide +kernel
theorem L10_27 : zlk 10 27 = some (kX11_isLetter, 1) := by decide +kernel
theorem L11_5 : zlk 11 5 = some (1004, 0) := by decide +kernel
theorem L11_13 : zlk 11 13 = some (kX1_init, 0) := by decide +kernel
theorem L11_23 : zlk 11 23 = some (kX10_init, 0) := by decide +kernel
theorem L11_39 : zlk 11 39 = some (kX7_init, 0) := by decide +kernel
theorem L11_48 : zlk 11 48 = some (kX2_init, 1) := by decide +kernel
theorem L11_55 : zlk 11 55 = some (kX4_init, 1) := by decide +kernel
theorem L11_62 : zlk 11 62 = some (kX0_init, 1) := by decide +kernel
theorem L11_77 : zlk 11 77 = some (kX8_init, 1) := by decide +kernel
theorem L11_78 : zlk 11 78 = some (kX11_isWithin, 0) := by decide +kernel
theorem L11_86 : zlk 11 86 = some (kX10_append, 0) := by decide +kernel
theorem L11_89 : zlk 11 89 = some (kX10_empty, 0) := by decide +kernel
theorem L11_93 : zlk 11 93 = some (kX11_isFamily, 0) := by decide +kernel
theorem L11_97 : zlk 11 97 = some (kX10_faultAsName, 0) := by decide +kernel
theorem L11_100 : zlk 11 100 = some (kX10_wordAt, 0) := by decide +kernel
theorem L11_104 : zlk 11 104 = some (kX5_withName, 0) := by decide +kernel
theorem L11_113 : zlk 11 113 = some (kX5_append, 0) := by decide +kernel
theorem L11_116 : zlk 11 116 = some (kX11_isNote, 0) := by decide +kernel
theorem L11_128 : zlk 11 128 = some (kX5_strengthOf, 0) := by decide +kernel
theorem L11_132 : zlk 11 132 = some (kX11_bitsOf, 0) := by decide +kernel
theorem L11_136 : zlk 11 136 = some (kX5_keepOf, 0) := by decide +kernel
theorem L11_139 : zlk 11 139 = some (kX5_placeInOrgan, 0) := by decide +kernel
theorem L11_152 : zlk 11 152 = some (kX5_lettersOf, 0) := by decide +kernel
theorem L11_155 : zlk 11 155 = some (kX5_letterOf, 0) := by decide +kernel
theorem L11_159 : zlk 11 159 = some (kX5_atPlaceByName, 0) := by decide +kernel
theorem L11_162 : zlk 11 162 = some (kX5_listOrgan, 0) := by decide +kernel
theorem L11_168 : zlk 11 168 = some (kX11_isBlend, 0) := by decide +kernel
theorem L11_175 : zlk 11 175 = some (kX11_follow, 0) := by decide +kernel
theorem L11_179 : zlk 11 179 = some (kX7_read, 0) := by decide +kernel
theorem L11_186 : zlk 11 186 = some (kX2_doRecipe, 0) := by decide +kernel
theorem L11_198 : zlk 11 198 = some (kX3_put, 0) := by decide +kernel
theorem L11_202 : zlk 11 202 = some (kX3_takeFrom, 0) := by decide +kernel
theorem L11_206 : zlk 11 206 = some (kX2_shareOut, 0) := by decide +kernel
theorem L11_210 : zlk 11 210 = some (kX3_notesWithDrops, 0) := by decide +kernel
theorem L11_213 : zlk 11 213 = some (kX2_addAll, 0) := by decide +kernel
theorem L11_217 : zlk 11 217 = some (kX11_listTurns, 0) := by decide +kernel
theorem L11_221 : zlk 11 221 = some (kX1_brokenBy, 0) := by decide +kernel
theorem L11_224 : zlk 11 224 = some (kX3_familiesWithDrops, 0) := by decide +kernel
theorem L11_228 : zlk 11 228 = some (kX1_othersOfShape, 0) := by decide +kernel
theorem L11_231 : zlk 11 231 = some (kX4_nearestTo, 0) := by decide +kernel
theorem L11_235 : zlk 11 235 = some (kX11_writePart, 0) := by decide +kernel
theorem L11_238 : zlk 11 238 = some (kX10_appendNumber, 0) := by decide +kernel
theorem L11_241 : zlk 11 241 = some (kX10_at, 0) := by decide +kernel
theorem L11_245 : zlk 11 245 = some (kX3_shareOf, 0) := by decide +kernel
theorem L11_248 : zlk 11 248 = some (kX11_isHour, 0) := by decide +kernel
theorem L11_251 : zlk 11 251 = some (kX0_openAt, 0) := by decide +kernel
theorem L11_259 : zlk 11 259 = some (kX0_scentOfAll, 0) := by decide +kernel
theorem L11_263 : zlk 11 263 = some (kX0_scentOfFamily, 0) := by decide +kernel
theorem L11_267 : zlk 11 267 = some (kX0_leader, 0) := by decide +kernel
theorem L11_270 : zlk 11 270 = some (kX0_passHour, 0) := by decide +kernel
theorem L11_273 : zlk 11 273 = some (kX3_distanceTo, 0) := by decide +kernel
theorem L11_277 : zlk 11 277 = some (kX4_bestMore, 0) := by decide +kernel
theorem L11_283 : zlk 11 283 = some (kX11_magnitudeBits, 0) := by decide +kernel
theorem L11_289 : zlk 11 289 = some (kX4_leastMissed, 0) := by decide +kernel
theorem L11_292 : zlk 11 292 = some (kX5_nearestKeep, 0) := by decide +kernel
theorem L11_295 : zlk 11 295 = some (kX1_atRank, 0) := by decide +kernel
theorem L11_305 : zlk 11 305 = some (kX6_append, 0) := by decide +kernel
theorem L11_308 : zlk 11 308 = some (kX6_has, 0) := by decide +kernel
theorem L11_323 : zlk 11 323 = some (kX6_listInTurn, 0) := by decide +kernel
theorem L11_329 : zlk 11 329 = some (kX1_serveOrders, 0) := by decide +kernel
theorem L11_336 : zlk 11 336 = some (kX1_canMake, 0) := by decide +kernel
theorem L11_340 : zlk 11 340 = some (kX9_take, 0) := by decide +kernel
theorem L11_344 : zlk 11 344 = some (kX9_firstLacking, 0) := by decide +kernel
theorem L11_348 : zlk 11 348 = some (kX9_timesEnough, 0) := by decide +kernel
theorem L11_363 : zlk 11 363 = some (kX1_countFull, 0) := by decide +kernel
theorem L11_366 : zlk 11 366 = some (kX9_stockOfAll, 0) := by decide +kernel
theorem L11_369 : zlk 11 369 = some (kX1_countShapes, 0) := by decide +kernel
theorem L11_372 : zlk 11 372 = some (kX11_isRow, 0) := by decide +kernel
theorem L11_375 : zlk 11 375 = some (kX8_become, 0) := by decide +kernel
theorem L11_382 : zlk 11 382 = some (kX8_hasPlace, 0) := by decide +kernel
theorem L11_388 : zlk 11 388 = some (kX8_itemOfNumber, 0) := by decide +kernel
theorem L11_394 : zlk 11 394 = some (kX8_hasPlaces, 0) := by decide +kernel
theorem L11_397 : zlk 11 397 = some (1000, 0) := by decide +kernel
theorem L11_403 : zlk 11 403 = some (kX8_takeFrom, 0) := by decide +kernel
theorem L11_407 : zlk 11 407 = some (kX8_hasPlaceFrom, 0) := by decide +kernel
theorem L11_410 : zlk 11 410 = some (kX8_itemOfShare, 0) := by decide +kernel
theorem L11_413 : zlk 11 413 = some (kX1_takeFrom, 0) := by decide +kernel
theorem L12_3 : zlk 12 3 = some (1004, 0) := by decide +kernel
theorem L12_56 : zlk 12 56 = some (kX12_isIn, 0) := by decide +kernel
theorem L12_60 : zlk 12 60 = some (kX12_dropsOf, 0) := by decide +kernel
theorem L12_64 : zlk 12 64 = some (kX12_noteAt, 0) := by decide +kernel
theorem L12_71 : zlk 12 71 = some (kX12_isLetter, 0) := by decide +kernel
theorem L12_75 : zlk 12 75 = some (kX12_lengthOf, 0) := by decide +kernel
theorem L12_79 : zlk 12 79 = some (kX12_lettersFrom, 0) := by decide +kernel
theorem L12_82 : zlk 12 82 = some (kX12_noteBy, 0) := by decide +kernel
theorem L12_86 : zlk 12 86 = some (kX12_isAheadByName, 0) := by decide +kernel
theorem L12_90 : zlk 12 90 = some (kX12_isAhead, 0) := by decide +kernel
theorem L12_93 : zlk 12 93 = some (kX12_placeOf, 0) := by decide +kernel
theorem L12_97 : zlk 12 97 = some (kX12_isNote, 0) := by decide +kernel
theorem L12_100 : zlk 12 100 = some (kX12_strength, 0) := by decide +kernel
theorem L12_104 : zlk 12 104 = some (kJxf58ca_floatToIntBits_5c35a, 0) := by decide +kernel
theorem L12_110 : zlk 12 110 = some (kX12_keep, 0) := by decide +kernel
theorem L12_113 : zlk 12 113 = some (kX12_placed, 0) := by decide +kernel
theorem L12_122 : zlk 12 122 = some (kX12_sees, 0) := by decide +kernel
theorem L12_125 : zlk 12 125 = some (kX12_fails, 0) := by decide +kernel
theorem L12_129 : zlk 12 129 = some (kX12_allInMind, 0) := by decide +kernel
theorem L12_133 : zlk 12 133 = some (kX12_allOf, 0) := by decide +kernel
theorem L12_138 : zlk 12 138 = some (kX12_number, 0) := by decide +kernel
theorem L12_141 : zlk 12 141 = some (kX12_takes, 0) := by decide +kernel
theorem L12_148 : zlk 12 148 = some (kX12_shares, 0) := by decide +kernel
theorem L12_152 : zlk 12 152 = some (kX12_comes, 0) := by decide +kernel
theorem L12_155 : zlk 12 155 = some (kX12_copies, 0) := by decide +kernel
theorem L12_162 : zlk 12 162 = some (kX12_partDone, 0) := by decide +kernel
theorem L12_166 : zlk 12 166 = some (kX12_parts, 0) := by decide +kernel
theorem L12_169 : zlk 12 169 = some (kX12_isBlend, 0) := by decide +kernel
theorem L12_172 : zlk 12 172 = some (kX12_recipes, 0) := by decide +kernel
theorem L12_175 : zlk 12 175 = some (kX12_noFewer, 0) := by decide +kernel
theorem L12_178 : zlk 12 178 = some (kX12_ofFamily, 0) := by decide +kernel
theorem L12_183 : zlk 12 183 = some (kX12_isLike, 0) := by decide +kernel
theorem L12_186 : zlk 12 186 = some (kX12_apart, 0) := by decide +kernel
theorem L12_190 : zlk 12 190 = some (kX12_turns, 0) := by decide +kernel
theorem L12_193 : zlk 12 193 = some (kX12_broken, 0) := by decide +kernel
theorem L12_196 : zlk 12 196 = some (kX12_likes, 0) := by decide +kernel
theorem L12_199 : zlk 12 199 = some (kX12_nearest, 0) := by decide +kernel
theorem L12_205 : zlk 12 205 = some (kX12_writesNumber, 0) := by decide +kernel
theorem L12_208 : zlk 12 208 = some (kX12_writes, 0) := by decide +kernel
theorem L12_211 : zlk 12 211 = some (kX12_organs, 0) := by decide +kernel
theorem L12_214 : zlk 12 214 = some (kX12_writesPart, 0) := by decide +kernel
theorem L12_218 : zlk 12 218 = some (kX12_share, 0) := by decide +kernel
theorem L12_222 : zlk 12 222 = some (1005, 0) := by decide +kernel
theorem L12_228 : zlk 12 228 = some (kX12_begins, 0) := by decide +kernel
theorem L12_231 : zlk 12 231 = some (kX12_goes, 0) := by decide +kernel
theorem L12_236 : zlk 12 236 = some (kX12_isHour, 0) := by decide +kernel
theorem L12_239 : zlk 12 239 = some (kX12_goesTo, 0) := by decide +kernel
theorem L12_242 : zlk 12 242 = some (kX12_scentNow, 0) := by decide +kernel
theorem L12_246 : zlk 12 246 = some (kX12_leadsNow, 0) := by decide +kernel
theorem L12_251 : zlk 12 251 = some (kJxe99ae_doubleToLongBits_ccdee, 0) := by decide +kernel
theorem L12_259 : zlk 12 259 = some (kX12_apartFromMind, 0) := by decide +kernel
theorem L12_262 : zlk 12 262 = some (kX12_isRankedAhead, 0) := by decide +kernel
theorem L12_265 : zlk 12 265 = some (kX12_isOrder, 0) := by decide +kernel
theorem L12_268 : zlk 12 268 = some (kX12_orderAt, 0) := by decide +kernel
theorem L12_271 : zlk 12 271 = some (kX12_make, 0) := by decide +kernel
theorem L12_275 : zlk 12 275 = some (kX12_lacking, 0) := by decide +kernel
theorem L12_278 : zlk 12 278 = some (kX12_notEmpty, 0) := by decide +kernel
theorem L12_281 : zlk 12 281 = some (kX12_shapes, 0) := by decide +kernel
theorem L12_284 : zlk 12 284 = some (kX12_opens, 0) := by decide +kernel
theorem L12_287 : zlk 12 287 = some (kX12_isRow, 0) := by decide +kernel
theorem L12_290 : zlk 12 290 = some (kX12_shareAs, 0) := by decide +kernel
theorem L13_9 : zlk 13 9 = some (kX11_init, 0) := by decide +kernel
theorem L13_12 : zlk 13 12 = some (kX12_init, 0) := by decide +kernel
theorem L13_13 : zlk 13 13 = some (kX11_feed, 0) := by decide +kernel
theorem L13_17 : zlk 13 17 = some (kX12_feed, 0) := by decide +kernel
theorem L13_18 : zlk 13 18 = some (kX11_clear, 0) := by decide +kernel
theorem L13_22 : zlk 13 22 = some (kX12_clear, 0) := by decide +kernel
theorem L13_23 : zlk 13 23 = some (kX11_note, 0) := by decide +kernel
theorem L13_27 : zlk 13 27 = some (kX12_note, 0) := by decide +kernel
theorem L13_28 : zlk 13 28 = some (kX11_of, 0) := by decide +kernel
theorem L13_32 : zlk 13 32 = some (kX12_of, 0) := by decide +kernel
theorem L13_33 : zlk 13 33 = some (kX11_lasting, 0) := by decide +kernel
theorem L13_36 : zlk 13 36 = some (kX12_lasting, 0) := by decide +kernel
theorem L13_37 : zlk 13 37 = some (kX11_name, 0) := by decide +kernel
theorem L13_40 : zlk 13 40 = some (kX12_name, 0) := by decide +kernel
theorem L13_41 : zlk 13 41 = some (kX11_find, 0) := by decide +kernel
theorem L13_44 : zlk 13 44 = some (kX12_find, 0) := by decide +kernel
theorem L13_45 : zlk 13 45 = some (kX11_byName, 0) := by decide +kernel
theorem L13_48 : zlk 13 48 = some (kX12_byName, 0) := by decide +kernel
theorem L13_49 : zlk 13 49 = some (kX11_organ, 0) := by decide +kernel
theorem L13_52 : zlk 13 52 = some (kX12_organ, 0) := by decide +kernel
theorem L13_53 : zlk 13 53 = some (kX11_recipe, 0) := by decide +kernel
theorem L13_56 : zlk 13 56 = some (kX12_recipe, 0) := by decide +kernel
theorem L13_57 : zlk 13 57 = some (kX11_accord, 0) := by decide +kernel
theorem L13_60 : zlk 13 60 = some (kX12_accord, 0) := by decide +kernel
theorem L13_61 : zlk 13 61 = some (kX11_drop, 0) := by decide +kernel
theorem L13_64 : zlk 13 64 = some (kX12_drop, 0) := by decide +kernel
theorem L13_65 : zlk 13 65 = some (kX11_drops, 0) := by decide +kernel
theorem L13_68 : zlk 13 68 = some (kX12_drops, 0) := by decide +kernel
theorem L13_69 : zlk 13 69 = some (kX11_copy, 0) := by decide +kernel
theorem L13_72 : zlk 13 72 = some (kX12_copy, 0) := by decide +kernel
theorem L13_73 : zlk 13 73 = some (kX11_scale, 0) := by decide +kernel
theorem L13_76 : zlk 13 76 = some (kX12_scale, 0) := by decide +kernel
theorem L13_77 : zlk 13 77 = some (kX11_mix, 0) := by decide +kernel
theorem L13_80 : zlk 13 80 = some (kX12_mix, 0) := by decide +kernel
theorem L13_81 : zlk 13 81 = some (kX11_blend, 0) := by decide +kernel
theorem L13_84 : zlk 13 84 = some (kX12_blend, 0) := by decide +kernel
theorem L13_85 : zlk 13 85 = some (kX11_spell, 0) := by decide +kernel
theorem L13_88 : zlk 13 88 = some (kX12_spell, 0) := by decide +kernel
theorem L13_89 : zlk 13 89 = some (kX11_differ, 0) := by decide +kernel
theorem L13_92 : zlk 13 92 = some (kX12_differ, 0) := by decide +kernel
theorem L13_93 : zlk 13 93 = some (kX11_paper, 0) := by decide +kernel
theorem L13_96 : zlk 13 96 = some (kX12_paper, 0) := by decide +kernel
theorem L13_97 : zlk 13 97 = some (kX11_share, 0) := by decide +kernel
theorem L13_101 : zlk 13 101 = some (kX12_share_, 0) := by decide +kernel
theorem L13_102 : zlk 13 102 = some (kX11_weight, 0) := by decide +kernel
theorem L13_106 : zlk 13 106 = some (kX12_weight, 0) := by decide +kernel
theorem L13_107 : zlk 13 107 = some (kX11_scent, 0) := by decide +kernel
theorem L13_110 : zlk 13 110 = some (kX12_scent, 0) := by decide +kernel
theorem L13_111 : zlk 13 111 = some (kX11_thousandths, 0) := by decide +kernel
theorem L13_114 : zlk 13 114 = some (kX12_thousandths, 0) := by decide +kernel
theorem L13_115 : zlk 13 115 = some (kX11_leads, 0) := by decide +kernel
theorem L13_118 : zlk 13 118 = some (kX12_leads, 0) := by decide +kernel
theorem L13_119 : zlk 13 119 = some (kX11_turn, 0) := by decide +kernel
theorem L13_122 : zlk 13 122 = some (kX12_turn, 0) := by decide +kernel
theorem L13_123 : zlk 13 123 = some (kX11_faded, 0) := by decide +kernel
theorem L13_126 : zlk 13 126 = some (kX12_faded, 0) := by decide +kernel
theorem L13_127 : zlk 13 127 = some (kX11_distance, 0) := by decide +kernel
theorem L13_130 : zlk 13 130 = some (kX12_distance, 0) := by decide +kernel
theorem L13_131 : zlk 13 131 = some (kX11_nearer, 0) := by decide +kernel
theorem L13_134 : zlk 13 134 = some (kX12_nearer, 0) := by decide +kernel
theorem L13_135 : zlk 13 135 = some (kX11_wide, 0) := by decide +kernel
theorem L13_138 : zlk 13 138 = some (kX12_wide, 0) := by decide +kernel
theorem L13_139 : zlk 13 139 = some (kX11_area, 0) := by decide +kernel
theorem L13_142 : zlk 13 142 = some (kX12_area, 0) := by decide +kernel
theorem L13_143 : zlk 13 143 = some (kX11_thin, 0) := by decide +kernel
theorem L13_146 : zlk 13 146 = some (kX12_thin, 0) := by decide +kernel
theorem L13_147 : zlk 13 147 = some (kX11_substitute, 0) := by decide +kernel
theorem L13_150 : zlk 13 150 = some (kX12_substitute, 0) := by decide +kernel
theorem L13_151 : zlk 13 151 = some (kX11_replace, 0) := by decide +kernel
theorem L13_154 : zlk 13 154 = some (kX12_replace, 0) := by decide +kernel
theorem L13_155 : zlk 13 155 = some (kX11_rank, 0) := by decide +kernel
theorem L13_158 : zlk 13 158 = some (kX12_rank, 0) := by decide +kernel
theorem L13_159 : zlk 13 159 = some (kX11_order, 0) := by decide +kernel
theorem L13_162 : zlk 13 162 = some (kX12_order, 0) := by decide +kernel
theorem L13_163 : zlk 13 163 = some (kX11_off, 0) := by decide +kernel
theorem L13_166 : zlk 13 166 = some (kX12_off, 0) := by decide +kernel
theorem L13_167 : zlk 13 167 = some (kX11_urge, 0) := by decide +kernel
theorem L13_170 : zlk 13 170 = some (kX12_urge, 0) := by decide +kernel
theorem L13_171 : zlk 13 171 = some (kX11_orderOf, 0) := by decide +kernel
theorem L13_174 : zlk 13 174 = some (kX12_orderOf, 0) := by decide +kernel
theorem L13_175 : zlk 13 175 = some (kX11_inTurn, 0) := by decide +kernel
theorem L13_178 : zlk 13 178 = some (kX12_inTurn, 0) := by decide +kernel
theorem L13_179 : zlk 13 179 = some (kX11_serve, 0) := by decide +kernel
theorem L13_182 : zlk 13 182 = some (kX12_serve, 0) := by decide +kernel
theorem L13_183 : zlk 13 183 = some (kX11_limit, 0) := by decide +kernel
theorem L13_186 : zlk 13 186 = some (kX12_limit, 0) := by decide +kernel
theorem L13_187 : zlk 13 187 = some (kX11_fill, 0) := by decide +kernel
theorem L13_190 : zlk 13 190 = some (kX12_fill, 0) := by decide +kernel
theorem L13_191 : zlk 13 191 = some (kX11_make, 0) := by decide +kernel
theorem L13_194 : zlk 13 194 = some (kX12_make, 0) := by decide +kernel
theorem L13_195 : zlk 13 195 = some (kX11_lacks, 0) := by decide +kernel
theorem L13_198 : zlk 13 198 = some (kX12_lacks, 0) := by decide +kernel
theorem L13_199 : zlk 13 199 = some (kX11_most, 0) := by decide +kernel
theorem L13_202 : zlk 13 202 = some (kX12_most, 0) := by decide +kernel
theorem L13_203 : zlk 13 203 = some (kX11_book, 0) := by decide +kernel
theorem L13_206 : zlk 13 206 = some (kX12_book, 0) := by decide +kernel
theorem L13_207 : zlk 13 207 = some (kX11_told, 0) := by decide +kernel
theorem L13_210 : zlk 13 210 = some (kX12_told, 0) := by decide +kernel
theorem L13_211 : zlk 13 211 = some (kX11_row, 0) := by decide +kernel
theorem L13_214 : zlk 13 214 = some (kX12_row, 0) := by decide +kernel
theorem L13_217 : zlk 13 217 = some (kX11_set, 0) := by decide +kernel
theorem L13_221 : zlk 13 221 = some (kX12_set, 0) := by decide +kernel
theorem L13_222 : zlk 13 222 = some (kX11_get, 0) := by decide +kernel
theorem L13_225 : zlk 13 225 = some (kX12_get, 0) := by decide +kernel
theorem L13_226 : zlk 13 226 = some (kX11_move, 0) := by decide +kernel
theorem L13_230 : zlk 13 230 = some (kX12_move, 0) := by decide +kernel
theorem L13_231 : zlk 13 231 = some (kX11_twin, 0) := by decide +kernel
theorem L13_234 : zlk 13 234 = some (kX12_twin, 0) := by decide +kernel
theorem L13_235 : zlk 13 235 = some (kX11_lay, 0) := by decide +kernel
theorem L13_238 : zlk 13 238 = some (kX12_lay, 0) := by decide +kernel
theorem L13_239 : zlk 13 239 = some (kX11_judge, 0) := by decide +kernel
theorem L13_242 : zlk 13 242 = some (kX12_judge, 0) := by decide +kernel
theorem L13_243 : zlk 13 243 = some (kX11_image, 0) := by decide +kernel
theorem L13_246 : zlk 13 246 = some (kX12_image, 0) := by decide +kernel
theorem L13_247 : zlk 13 247 = some (kX11_undo, 0) := by decide +kernel
theorem L13_250 : zlk 13 250 = some (kX12_undo, 0) := by decide +kernel
theorem L20_122 : zlk 20 122 = some (kJxe99ae_isNaN_b9ae7, 0) := by decide +kernel
theorem L20_134 : zlk 20 134 = some (1003, 0) := by decide +kernel
theorem L21_59 : zlk 21 59 = some (kJxf58ca_isNaN_12338, 0) := by decide +kernel
theorem L21_74 : zlk 21 74 = some (1001, 0) := by decide +kernel
theorem L22_68 : zlk 22 68 = some (1001, 0) := by decide +kernel
theorem L22_162 : zlk 22 162 = some (1002, 0) := by decide +kernel
theorem F0_9 : zfl 0 9 = some (0, 0) := by decide +kernel
theorem F0_15 : zfl 0 15 = some (0, 1) := by decide +kernel
theorem F0_18 : zfl 0 18 = some (0, 2) := by decide +kernel
theorem F0_22 : zfl 0 22 = some (0, 3) := by decide +kernel
theorem F0_25 : zfl 0 25 = some (5, 5) := by decide +kernel
theorem F0_31 : zfl 0 31 = some (0, 4) := by decide +kernel
theorem F0_32 : zfl 0 32 = some (3, 0) := by decide +kernel
theorem F0_44 : zfl 0 44 = some (5, 1) := by decide +kernel
theorem F1_12 : zfl 1 12 = some (1, 0) := by decide +kernel
theorem F1_20 : zfl 1 20 = some (1, 1) := by decide +kernel
theorem F1_27 : zfl 1 27 = some (1, 2) := by decide +kernel
theorem F1_34 : zfl 1 34 = some (1, 3) := by decide +kernel
theorem F1_56 : zfl 1 56 = some (9, 0) := by decide +kernel
theorem F1_60 : zfl 1 60 = some (3, 1) := by decide +kernel
theorem F1_76 : zfl 1 76 = some (6, 4) := by decide +kernel
theorem F1_79 : zfl 1 79 = some (6, 0) := by decide +kernel
theorem F1_82 : zfl 1 82 = some (6, 1) := by decide +kernel
theorem F1_93 : zfl 1 93 = some (6, 3) := by decide +kernel
theorem F2_12 : zfl 2 12 = some (2, 0) := by decide +kernel
theorem F2_18 : zfl 2 18 = some (2, 1) := by decide +kernel
theorem F2_21 : zfl 2 21 = some (2, 2) := by decide +kernel
theorem F2_25 : zfl 2 25 = some (3, 1) := by decide +kernel
theorem F2_29 : zfl 2 29 = some (3, 0) := by decide +kernel
theorem F2_43 : zfl 2 43 = some (7, 5) := by decide +kernel
theorem F2_48 : zfl 2 48 = some (7, 0) := by decide +kernel
theorem F2_51 : zfl 2 51 = some (7, 1) := by decide +kernel
theorem F2_54 : zfl 2 54 = some (7, 2) := by decide +kernel
theorem F3_9 : zfl 3 9 = some (3, 0) := by decide +kernel
theorem F3_15 : zfl 3 15 = some (3, 1) := by decide +kernel
theorem F3_25 : zfl 3 25 = some (5, 5) := by decide +kernel
theorem F3_30 : zfl 3 30 = some (5, 1) := by decide +kernel
theorem F4_12 : zfl 4 12 = some (4, 0) := by decide +kernel
theorem F4_18 : zfl 4 18 = some (3, 1) := by decide +kernel
theorem F4_30 : zfl 4 30 = some (3, 0) := by decide +kernel
theorem F5_9 : zfl 5 9 = some (5, 0) := by decide +kernel
theorem F5_15 : zfl 5 15 = some (5, 1) := by decide +kernel
theorem F5_19 : zfl 5 19 = some (5, 2) := by decide +kernel
theorem F5_22 : zfl 5 22 = some (5, 3) := by decide +kernel
theorem F5_25 : zfl 5 25 = some (5, 4) := by decide +kernel
theorem F5_28 : zfl 5 28 = some (5, 5) := by decide +kernel
theorem F6_9 : zfl 6 9 = some (6, 0) := by decide +kernel
theorem F6_15 : zfl 6 15 = some (6, 1) := by decide +kernel
theorem F6_18 : zfl 6 18 = some (6, 2) := by decide +kernel
theorem F6_21 : zfl 6 21 = some (6, 3) := by decide +kernel
theorem F6_24 : zfl 6 24 = some (6, 4) := by decide +kernel
theorem F6_27 : zfl 6 27 = some (6, 5) := by decide +kernel
theorem F7_9 : zfl 7 9 = some (7, 0) := by decide +kernel
theorem F7_15 : zfl 7 15 = some (7, 1) := by decide +kernel
theorem F7_18 : zfl 7 18 = some (7, 2) := by decide +kernel
theorem F7_21 : zfl 7 21 = some (7, 3) := by decide +kernel
theorem F7_25 : zfl 7 25 = some (7, 4) := by decide +kernel
theorem F7_29 : zfl 7 29 = some (7, 6) := by decide +kernel
theorem F7_33 : zfl 7 33 = some (7, 5) := by decide +kernel
theorem F7_44 : zfl 7 44 = some (7, 7) := by decide +kernel
theorem F7_47 : zfl 7 47 = some (10, 1) := by decide +kernel
theorem F8_9 : zfl 8 9 = some (8, 0) := by decide +kernel
theorem F8_21 : zfl 8 21 = some (8, 1) := by decide +kernel
theorem F8_25 : zfl 8 25 = some (8, 2) := by decide +kernel
theorem F8_29 : zfl 8 29 = some (8, 3) := by decide +kernel
theorem F9_9 : zfl 9 9 = some (9, 0) := by decide +kernel
theorem F9_15 : zfl 9 15 = some (9, 1) := by decide +kernel
theorem F9_18 : zfl 9 18 = some (9, 2) := by decide +kernel
theorem F9_21 : zfl 9 21 = some (9, 3) := by decide +kernel
theorem F9_24 : zfl 9 24 = some (9, 4) := by decide +kernel
theorem F9_33 : zfl 9 33 = some (3, 0) := by decide +kernel
theorem F9_44 : zfl 9 44 = some (3, 1) := by decide +kernel
theorem F9_52 : zfl 9 52 = some (9, 5) := by decide +kernel
theorem F10_9 : zfl 10 9 = some (10, 0) := by decide +kernel
theorem F10_15 : zfl 10 15 = some (10, 1) := by decide +kernel
theorem F11_14 : zfl 11 14 = some (11, 0) := by decide +kernel
theorem F11_18 : zfl 11 18 = some (11, 1) := by decide +kernel
theorem F11_26 : zfl 11 26 = some (11, 3) := by decide +kernel
theorem F11_30 : zfl 11 30 = some (11, 4) := by decide +kernel
theorem F11_35 : zfl 11 35 = some (1, 0) := by decide +kernel
theorem F11_42 : zfl 11 42 = some (11, 5) := by decide +kernel
theorem F11_49 : zfl 11 49 = some (11, 6) := by decide +kernel
theorem F11_56 : zfl 11 56 = some (11, 7) := by decide +kernel
theorem F11_63 : zfl 11 63 = some (11, 8) := by decide +kernel
theorem F11_69 : zfl 11 69 = some (11, 9) := by decide +kernel
theorem F11_73 : zfl 11 73 = some (11, 10) := by decide +kernel
theorem F11_82 : zfl 11 82 = some (10, 1) := by decide +kernel
theorem F11_110 : zfl 11 110 = some (5, 5) := by decide +kernel
theorem F11_119 : zfl 11 119 = some (5, 1) := by decide +kernel
theorem F11_122 : zfl 11 122 = some (5, 2) := by decide +kernel
theorem F11_125 : zfl 11 125 = some (5, 3) := by decide +kernel
theorem F11_143 : zfl 11 143 = some (1, 2) := by decide +kernel
theorem F11_147 : zfl 11 147 = some (9, 1) := by decide +kernel
theorem F11_165 : zfl 11 165 = some (5, 4) := by decide +kernel
theorem F11_171 : zfl 11 171 = some (1, 1) := by decide +kernel
theorem F11_183 : zfl 11 183 = some (7, 6) := by decide +kernel
theorem F11_190 : zfl 11 190 = some (3, 1) := by decide +kernel
theorem F11_195 : zfl 11 195 = some (3, 0) := by decide +kernel
theorem F11_255 : zfl 11 255 = some (0, 0) := by decide +kernel
theorem F11_298 : zfl 11 298 = some (1, 3) := by decide +kernel
theorem F11_302 : zfl 11 302 = some (6, 5) := by decide +kernel
theorem F11_311 : zfl 11 311 = some (6, 3) := by decide +kernel
theorem F11_314 : zfl 11 314 = some (6, 2) := by decide +kernel
theorem F11_317 : zfl 11 317 = some (6, 0) := by decide +kernel
theorem F11_320 : zfl 11 320 = some (6, 1) := by decide +kernel
theorem F11_326 : zfl 11 326 = some (6, 4) := by decide +kernel
theorem F11_332 : zfl 11 332 = some (9, 0) := by decide +kernel
theorem F11_351 : zfl 11 351 = some (9, 5) := by decide +kernel
theorem F11_354 : zfl 11 354 = some (9, 2) := by decide +kernel
theorem F11_357 : zfl 11 357 = some (9, 3) := by decide +kernel
theorem F11_360 : zfl 11 360 = some (9, 4) := by decide +kernel
theorem F11_378 : zfl 11 378 = some (8, 1) := by decide +kernel
theorem F11_385 : zfl 11 385 = some (8, 0) := by decide +kernel
theorem F11_391 : zfl 11 391 = some (8, 2) := by decide +kernel
theorem F11_406 : zfl 11 406 = some (8, 3) := by decide +kernel
theorem F11_416 : zfl 11 416 = some (11, 2) := by decide +kernel
theorem F12_11 : zfl 12 11 = some (12, 0) := by decide +kernel
theorem F12_15 : zfl 12 15 = some (12, 1) := by decide +kernel
theorem F12_18 : zfl 12 18 = some (12, 3) := by decide +kernel
theorem F12_21 : zfl 12 21 = some (12, 4) := by decide +kernel
theorem F12_24 : zfl 12 24 = some (12, 5) := by decide +kernel
theorem F12_27 : zfl 12 27 = some (12, 6) := by decide +kernel
theorem F12_30 : zfl 12 30 = some (12, 7) := by decide +kernel
theorem F12_33 : zfl 12 33 = some (12, 8) := by decide +kernel
theorem F12_37 : zfl 12 37 = some (12, 15) := by decide +kernel
theorem F12_41 : zfl 12 41 = some (12, 16) := by decide +kernel
theorem F12_44 : zfl 12 44 = some (12, 17) := by decide +kernel
theorem F12_47 : zfl 12 47 = some (12, 18) := by decide +kernel
theorem F12_50 : zfl 12 50 = some (12, 19) := by decide +kernel
theorem F12_53 : zfl 12 53 = some (12, 20) := by decide +kernel
theorem F12_67 : zfl 12 67 = some (12, 9) := by decide +kernel
theorem F12_116 : zfl 12 116 = some (12, 12) := by decide +kernel
theorem F12_119 : zfl 12 119 = some (12, 11) := by decide +kernel
theorem F12_144 : zfl 12 144 = some (12, 14) := by decide +kernel
theorem F12_159 : zfl 12 159 = some (12, 13) := by decide +kernel
theorem F12_202 : zfl 12 202 = some (12, 10) := by decide +kernel
theorem F12_294 : zfl 12 294 = some (12, 2) := by decide +kernel
theorem C5_32 : zcon 5 32 = some (.float 1120403456) := by decide +kernel
theorem C8_42 : zcon 8 42 = some (.float 1148846080) := by decide +kernel
theorem C11_243 : zcon 11 243 = some (.long (zL (-9223372036854775808))) := by decide +kernel
theorem C11_266 : zcon 11 266 = some (.float 1148846080) := by decide +kernel
theorem C11_281 : zcon 11 281 = some (.double 4613937818241073152) := by decide +kernel
theorem C11_287 : zcon 11 287 = some (.long (zL 4294967295)) := by decide +kernel
theorem C11_335 : zcon 11 335 = some (.int (zI 99999)) := by decide +kernel
theorem C11_421 : zcon 11 421 = some (.int (zI (-2147483648))) := by decide +kernel
theorem C11_422 : zcon 11 422 = some (.double 4611686018427387904) := by decide +kernel
theorem C12_85 : zcon 12 85 = some (.float 1120403456) := by decide +kernel
theorem C12_136 : zcon 12 136 = some (.long (zL (-1))) := by decide +kernel
theorem C12_181 : zcon 12 181 = some (.long (zL 1000)) := by decide +kernel
theorem C12_234 : zcon 12 234 = some (.long (zL (-9223372036854775808))) := by decide +kernel
theorem C12_245 : zcon 12 245 = some (.float 1148846080) := by decide +kernel
theorem C12_249 : zcon 12 249 = some (.double 4613937818241073152) := by decide +kernel
theorem C12_257 : zcon 12 257 = some (.long (zL 4294967295)) := by decide +kernel
theorem C12_274 : zcon 12 274 = some (.int (zI 99999)) := by decide +kernel
theorem C13_215 : zcon 13 215 = some (.long (zL 4294967295)) := by decide +kernel
theorem C20_137 : zcon 20 137 = some (.long (zL 9221120237041090560)) := by decide +kernel
theorem C21_77 : zcon 21 77 = some (.int (zI 2143289344)) := by decide +kernel
theorem C22_134 : zcon 22 134 = some (.int (zI 2147483647)) := by decide +kernel
theorem N1_9 : zcl 1 9 = some 5 := by decide +kernel
theorem N1_18 : zcl 1 18 = some 3 := by decide +kernel
theorem N1_24 : zcl 1 24 = some 9 := by decide +kernel
theorem N1_31 : zcl 1 31 = some 6 := by decide +kernel
theorem N2_9 : zcl 2 9 = some 3 := by decide +kernel
theorem N4_9 : zcl 4 9 = some 3 := by decide +kernel
theorem N11_11 : zcl 11 11 = some 1 := by decide +kernel
theorem N11_21 : zcl 11 21 = some 10 := by decide +kernel
theorem N11_33 : zcl 11 33 = some 7 := by decide +kernel
theorem N11_46 : zcl 11 46 = some 2 := by decide +kernel
theorem N11_53 : zcl 11 53 = some 4 := by decide +kernel
theorem N11_60 : zcl 11 60 = some 0 := by decide +kernel
theorem N11_67 : zcl 11 67 = some 8 := by decide +kernel
theorem N13_7 : zcl 13 7 = some 11 := by decide +kernel
theorem N13_10 : zcl 13 10 = some 12 := by decide +kernel
set_option maxRecDepth 10000 in
theorem ZX11_init : zMeths[kX11_init]? = some ((yX11_init, cX11_init, 2, none), (11, 0, 2, 5)) := rfl
set_option maxRecDepth 10000 in
theorem ZX1_init : zMeths[kX1_init]? = some ((yX1_init, cX1_init, 2, none), (1, 0, 2, 5)) := rfl
set_option maxRecDepth 10000 in
theorem ZX5_init : zMeths[kX5_init]? = some ((yX5_init, cX5_init, 1, none), (5, 0, 2, 5)) := rfl
set_option maxRecDepth 10000 in
theorem ZX9_init : zMeths[kX9_init]? = some ((yX9_init, cX9_init, 1, none), (9, 0, 2, 5)) := rfl
set_option maxRecDepth 10000 in
theorem ZJ7_fill_53178 : zMeths[kJ7_fill_53178]? = some ((yJ7_fill_53178, cJ7_fill_53178, 4, none), (23, 2, 0, 0)) := rfl
set_option maxRecDepth 10000 in
theorem ZX6_init : zMeths[kX6_init]? = some ((yX6_init, cX6_init, 1, none), (6, 0, 2, 5)) := rfl
set_option maxRecDepth 10000 in
theorem ZX3_init : zMeths[kX3_init]? = some ((yX3_init, cX3_init, 1, none), (3, 0, 2, 5)) := rfl
set_option maxRecDepth 10000 in
theorem ZX10_init : zMeths[kX10_init]? = some ((yX10_init, cX10_init, 2, none), (10, 1, 2, 5)) := rfl
set_option maxRecDepth 10000 in
theorem ZX7_init : zMeths[kX7_init]? = some ((yX7_init, cX7_init, 3, none), (7, 2, 2, 5)) := rfl
set_option maxRecDepth 10000 in
theorem ZX2_init : zMeths[kX2_init]? = some ((yX2_init, cX2_init, 1, none), (2, 0, 2, 5)) := rfl
set_option maxRecDepth 10000 in
theorem ZX4_init : zMeths[kX4_init]? = some ((yX4_init, cX4_init, 1, none), (4, 0, 2, 5)) := rfl
set_option maxRecDepth 10000 in
theorem ZX0_init : zMeths[kX0_init]? = some ((yX0_init, cX0_init, 1, none), (0, 0, 2, 5)) := rfl
set_option maxRecDepth 10000 in
theorem ZX8_init : zMeths[kX8_init]? = some ((yX8_init, cX8_init, 1, none), (8, 0, 2, 5)) := rfl
set_option maxRecDepth 10000 in
theorem ZX11_feed : zMeths[kX11_feed]? = some ((yX11_feed, cX11_feed, 2, some .int), (11, 1, 1, 1)) := rfl
set_option maxRecDepth 10000 in
theorem ZX11_isWithin : zMeths[kX11_isWithin]? = some ((yX11_isWithin, cX11_isWithin, 3, some .boolean), (11, 3, 0, 2)) := rfl
set_option maxRecDepth 10000 in
theorem ZX10_append : zMeths[kX10_append]? = some ((yX10_append, cX10_append, 2, none), (10, 1, 1, 0)) := rfl
set_option maxRecDepth 10000 in
theorem ZX11_clear : zMeths[kX11_clear]? = some ((yX11_clear, cX11_clear, 1, some .int), (11, 0, 1, 1)) := rfl
set_option maxRecDepth 10000 in
theorem ZX10_empty : zMeths[kX10_empty]? = some ((yX10_empty, cX10_empty, 2, some .int), (10, 0, 1, 1)) := rfl
set_option maxRecDepth 10000 in
theorem ZX11_note : zMeths[kX11_note]? = some ((yX11_note, cX11_note, 8, some .int), (11, 3, 1, 1)) := rfl
set_option maxRecDepth 10000 in
theorem ZX11_isFamily : zMeths[kX11_isFamily]? = some ((yX11_isFamily, cX11_isFamily, 1, some .boolean), (11, 1, 0, 2)) := rfl
set_option maxRecDepth 10000 in
theorem ZX10_faultAsName : zMeths[kX10_faultAsName]? = some ((yX10_faultAsName, cX10_faultAsName, 2, some .int), (10, 0, 1, 1)) := rfl
set_option maxRecDepth 10000 in
theorem ZX10_at : zMeths[kX10_at]? = some ((yX10_at, cX10_at, 2, some .int), (10, 1, 1, 1)) := rfl
set_option maxRecDepth 10000 in
theorem ZX11_isLetter : zMeths[kX11_isLetter]? = some ((yX11_isLetter, cX11_isLetter, 1, some .boolean), (11, 1, 0, 2)) := rfl
set_option maxRecDepth 10000 in
theorem ZX10_wordAt : zMeths[kX10_wordAt]? = some ((yX10_wordAt, cX10_wordAt, 8, some .long), (10, 2, 1, 3)) := rfl
set_option maxRecDepth 10000 in
theorem ZX5_withName : zMeths[kX5_withName]? = some ((yX5_withName, cX5_withName, 4, some .int), (5, 1, 1, 1)) := rfl
set_option maxRecDepth 10000 in
theorem ZX5_append : zMeths[kX5_append]? = some ((yX5_append, cX5_append, 7, some .int), (5, 4, 1, 1)) := rfl
set_option maxRecDepth 10000 in
theorem ZX11_of : zMeths[kX11_of]? = some ((yX11_of, cX11_of, 3, some .int), (11, 2, 1, 1)) := rfl
set_option maxRecDepth 10000 in
theorem ZX11_isNote : zMeths[kX11_isNote]? = some ((yX11_isNote, cX11_isNote, 2, some .boolean), (11, 1, 3, 2)) := rfl
set_option maxRecDepth 10000 in
theorem ZX5_strengthOf : zMeths[kX5_strengthOf]? = some ((yX5_strengthOf, cX5_strengthOf, 2, some .float), (5, 1, 1, 4)) := rfl
set_option maxRecDepth 10000 in
theorem ZX11_bitsOf : zMeths[kX11_bitsOf]? = some ((yX11_bitsOf, cX11_bitsOf, 1, some .int), (11, 1, 0, 1)) := rfl
set_option maxRecDepth 10000 in
theorem ZX11_magnitudeBits : zMeths[kX11_magnitudeBits]? = some ((yX11_magnitudeBits, cX11_magnitudeBits, 9, some .long), (11, 3, 0, 3)) := rfl
set_option maxRecDepth 10000 in
theorem ZX5_keepOf : zMeths[kX5_keepOf]? = some ((yX5_keepOf, cX5_keepOf, 2, some .float), (5, 1, 1, 4)) := rfl
set_option maxRecDepth 10000 in
theorem ZX5_placeInOrgan : zMeths[kX5_placeInOrgan]? = some ((yX5_placeInOrgan, cX5_placeInOrgan, 4, some .int), (5, 1, 1, 1)) := rfl
set_option maxRecDepth 10000 in
theorem ZX5_isAheadInOrgan : zMeths[kX5_isAheadInOrgan]? = some ((yX5_isAheadInOrgan, cX5_isAheadInOrgan, 3, some .boolean), (5, 2, 1, 2)) := rfl
set_option maxRecDepth 10000 in
theorem ZX11_lasting : zMeths[kX11_lasting]? = some ((yX11_lasting, cX11_lasting, 4, some .int), (11, 2, 1, 1)) := rfl
set_option maxRecDepth 10000 in
theorem ZX11_name : zMeths[kX11_name]? = some ((yX11_name, cX11_name, 4, some .int), (11, 2, 1, 1)) := rfl
set_option maxRecDepth 10000 in
theorem ZX5_lettersOf : zMeths[kX5_lettersOf]? = some ((yX5_lettersOf, cX5_lettersOf, 3, some .int), (5, 1, 1, 1)) := rfl
set_option maxRecDepth 10000 in
theorem ZX5_codeOf : zMeths[kX5_codeOf]? = some ((yX5_codeOf, cX5_codeOf, 3, some .int), (5, 2, 3, 1)) := rfl
set_option maxRecDepth 10000 in
theorem ZX5_letterOf : zMeths[kX5_letterOf]? = some ((yX5_letterOf, cX5_letterOf, 3, some .int), (5, 2, 1, 1)) := rfl
set_option maxRecDepth 10000 in
theorem ZX11_find : zMeths[kX11_find]? = some ((yX11_find, cX11_find, 3, some .int), (11, 0, 1, 1)) := rfl
set_option maxRecDepth 10000 in
theorem ZX11_byName : zMeths[kX11_byName]? = some ((yX11_byName, cX11_byName, 2, some .int), (11, 1, 1, 1)) := rfl
set_option maxRecDepth 10000 in
theorem ZX5_atPlaceByName : zMeths[kX5_atPlaceByName]? = some ((yX5_atPlaceByName, cX5_atPlaceByName, 3, some .int), (5, 1, 1, 1)) := rfl
set_option maxRecDepth 10000 in
theorem ZX5_placeByName : zMeths[kX5_placeByName]? = some ((yX5_placeByName, cX5_placeByName, 4, some .int), (5, 1, 1, 1)) := rfl
set_option maxRecDepth 10000 in
theorem ZX11_organ : zMeths[kX11_organ]? = some ((yX11_organ, cX11_organ, 2, some .int), (11, 1, 1, 1)) := rfl
set_option maxRecDepth 10000 in
theorem ZX5_listOrgan : zMeths[kX5_listOrgan]? = some ((yX5_listOrgan, cX5_listOrgan, 2, none), (5, 0, 1, 0)) := rfl
set_option maxRecDepth 10000 in
theorem ZX11_recipe : zMeths[kX11_recipe]? = some ((yX11_recipe, cX11_recipe, 2, some .int), (11, 1, 1, 1)) := rfl
set_option maxRecDepth 10000 in
theorem ZX11_isBlend : zMeths[kX11_isBlend]? = some ((yX11_isBlend, cX11_isBlend, 1, some .boolean), (11, 1, 0, 2)) := rfl
set_option maxRecDepth 10000 in
theorem ZX11_follow : zMeths[kX11_follow]? = some ((yX11_follow, cX11_follow, 5, some .int), (11, 2, 3, 1)) := rfl
set_option maxRecDepth 10000 in
theorem ZX7_read : zMeths[kX7_read]? = some ((yX7_read, cX7_read, 2, some .boolean), (7, 1, 1, 2)) := rfl
set_option maxRecDepth 10000 in
theorem ZX7_readHead : zMeths[kX7_readHead]? = some ((yX7_readHead, cX7_readHead, 3, some .boolean), (7, 1, 3, 2)) := rfl
set_option maxRecDepth 10000 in
theorem ZX7_keepHead : zMeths[kX7_keepHead]? = some ((yX7_keepHead, cX7_keepHead, 3, some .boolean), (7, 2, 3, 2)) := rfl
set_option maxRecDepth 10000 in
theorem ZX7_readAccord : zMeths[kX7_readAccord]? = some ((yX7_readAccord, cX7_readAccord, 2, some .boolean), (7, 0, 3, 2)) := rfl
set_option maxRecDepth 10000 in
theorem ZX7_readNumber : zMeths[kX7_readNumber]? = some ((yX7_readNumber, cX7_readNumber, 2, some .boolean), (7, 0, 3, 2)) := rfl
set_option maxRecDepth 10000 in
theorem ZX11_isFigure : zMeths[kX11_isFigure]? = some ((yX11_isFigure, cX11_isFigure, 1, some .boolean), (11, 1, 0, 2)) := rfl
set_option maxRecDepth 10000 in
theorem ZX7_readNote : zMeths[kX7_readNote]? = some ((yX7_readNote, cX7_readNote, 5, some .boolean), (7, 0, 3, 2)) := rfl
set_option maxRecDepth 10000 in
theorem ZX2_doRecipe : zMeths[kX2_doRecipe]? = some ((yX2_doRecipe, cX2_doRecipe, 5, some .int), (2, 3, 1, 1)) := rfl
set_option maxRecDepth 10000 in
theorem ZX3_takeFrom : zMeths[kX3_takeFrom]? = some ((yX3_takeFrom, cX3_takeFrom, 2, none), (3, 1, 1, 0)) := rfl
set_option maxRecDepth 10000 in
theorem ZX2_doPart : zMeths[kX2_doPart]? = some ((yX2_doPart, cX2_doPart, 5, some .boolean), (2, 4, 3, 2)) := rfl
set_option maxRecDepth 10000 in
theorem ZX2_become : zMeths[kX2_become]? = some ((yX2_become, cX2_become, 3, some .boolean), (2, 2, 3, 2)) := rfl
set_option maxRecDepth 10000 in
theorem ZX3_put : zMeths[kX3_put]? = some ((yX3_put, cX3_put, 3, none), (3, 2, 1, 0)) := rfl
set_option maxRecDepth 10000 in
theorem ZX2_shareOut : zMeths[kX2_shareOut]? = some ((yX2_shareOut, cX2_shareOut, 8, some .boolean), (2, 3, 1, 2)) := rfl
set_option maxRecDepth 10000 in
theorem ZX2_giveToGreatestRest : zMeths[kX2_giveToGreatestRest]? = some ((yX2_giveToGreatestRest, cX2_giveToGreatestRest, 4, none), (2, 1, 3, 0)) := rfl
set_option maxRecDepth 10000 in
theorem ZX2_addAll : zMeths[kX2_addAll]? = some ((yX2_addAll, cX2_addAll, 4, some .boolean), (2, 2, 1, 2)) := rfl
set_option maxRecDepth 10000 in
theorem ZX11_accord : zMeths[kX11_accord]? = some ((yX11_accord, cX11_accord, 2, some .int), (11, 1, 1, 1)) := rfl
set_option maxRecDepth 10000 in
theorem ZX11_drop : zMeths[kX11_drop]? = some ((yX11_drop, cX11_drop, 5, some .int), (11, 3, 1, 1)) := rfl
set_option maxRecDepth 10000 in
theorem ZX11_drops : zMeths[kX11_drops]? = some ((yX11_drops, cX11_drops, 3, some .int), (11, 2, 1, 1)) := rfl
set_option maxRecDepth 10000 in
theorem ZX11_copy : zMeths[kX11_copy]? = some ((yX11_copy, cX11_copy, 3, some .int), (11, 2, 1, 1)) := rfl
set_option maxRecDepth 10000 in
theorem ZX11_scale : zMeths[kX11_scale]? = some ((yX11_scale, cX11_scale, 4, some .int), (11, 2, 1, 1)) := rfl
set_option maxRecDepth 10000 in
theorem ZX3_notesWithDrops : zMeths[kX3_notesWithDrops]? = some ((yX3_notesWithDrops, cX3_notesWithDrops, 3, some .int), (3, 0, 1, 1)) := rfl
set_option maxRecDepth 10000 in
theorem ZX11_mix : zMeths[kX11_mix]? = some ((yX11_mix, cX11_mix, 3, some .int), (11, 2, 1, 1)) := rfl
set_option maxRecDepth 10000 in
theorem ZX11_blend : zMeths[kX11_blend]? = some ((yX11_blend, cX11_blend, 4, some .int), (11, 2, 1, 1)) := rfl
set_option maxRecDepth 10000 in
theorem ZX11_listTurns : zMeths[kX11_listTurns]? = some ((yX11_listTurns, cX11_listTurns, 6, some .int), (11, 1, 3, 1)) := rfl
set_option maxRecDepth 10000 in
theorem ZX0_openAt : zMeths[kX0_openAt]? = some ((yX0_openAt, cX0_openAt, 5, none), (0, 3, 1, 0)) := rfl
set_option maxRecDepth 10000 in
theorem ZX0_passHour : zMeths[kX0_passHour]? = some ((yX0_passHour, cX0_passHour, 2, none), (0, 0, 1, 0)) := rfl
set_option maxRecDepth 10000 in
theorem ZX0_leader : zMeths[kX0_leader]? = some ((yX0_leader, cX0_leader, 3, some .int), (0, 0, 1, 1)) := rfl
set_option maxRecDepth 10000 in
theorem ZX0_listScents : zMeths[kX0_listScents]? = some ((yX0_listScents, cX0_listScents, 2, none), (0, 0, 3, 0)) := rfl
set_option maxRecDepth 10000 in
theorem ZJ7_fill_e525d : zMeths[kJ7_fill_e525d]? = some ((yJ7_fill_e525d, cJ7_fill_e525d, 4, none), (23, 2, 0, 0)) := rfl
set_option maxRecDepth 10000 in
theorem ZX1_brokenBy : zMeths[kX1_brokenBy]? = some ((yX1_brokenBy, cX1_brokenBy, 5, some .int), (1, 1, 1, 1)) := rfl
set_option maxRecDepth 10000 in
theorem ZX3_dropsOfFamily : zMeths[kX3_dropsOfFamily]? = some ((yX3_dropsOfFamily, cX3_dropsOfFamily, 5, some .int), (3, 2, 1, 1)) := rfl
set_option maxRecDepth 10000 in
theorem ZX3_familiesWithDrops : zMeths[kX3_familiesWithDrops]? = some ((yX3_familiesWithDrops, cX3_familiesWithDrops, 4, some .int), (3, 1, 1, 1)) := rfl
set_option maxRecDepth 10000 in
theorem ZX1_othersOfShape : zMeths[kX1_othersOfShape]? = some ((yX1_othersOfShape, cX1_othersOfShape, 4, some .int), (1, 1, 1, 1)) := rfl
set_option maxRecDepth 10000 in
theorem ZX3_isOfShape : zMeths[kX3_isOfShape]? = some ((yX3_isOfShape, cX3_isOfShape, 3, some .boolean), (3, 1, 1, 2)) := rfl
set_option maxRecDepth 10000 in
theorem ZX4_nearestTo : zMeths[kX4_nearestTo]? = some ((yX4_nearestTo, cX4_nearestTo, 7, some .int), (4, 2, 1, 1)) := rfl
set_option maxRecDepth 10000 in
theorem ZX3_distanceTo : zMeths[kX3_distanceTo]? = some ((yX3_distanceTo, cX3_distanceTo, 4, some .float), (3, 1, 1, 4)) := rfl
set_option maxRecDepth 10000 in
theorem ZX3_shareOf : zMeths[kX3_shareOf]? = some ((yX3_shareOf, cX3_shareOf, 2, some .float), (3, 1, 1, 4)) := rfl
set_option maxRecDepth 10000 in
theorem ZX11_amountBetween : zMeths[kX11_amountBetween]? = some ((yX11_amountBetween, cX11_amountBetween, 2, some .float), (11, 2, 0, 4)) := rfl
set_option maxRecDepth 10000 in
theorem ZX11_spell : zMeths[kX11_spell]? = some ((yX11_spell, cX11_spell, 5, some .int), (11, 1, 1, 1)) := rfl
set_option maxRecDepth 10000 in
theorem ZX11_writePart : zMeths[kX11_writePart]? = some ((yX11_writePart, cX11_writePart, 5, none), (11, 2, 3, 0)) := rfl
set_option maxRecDepth 10000 in
theorem ZX10_appendNumber : zMeths[kX10_appendNumber]? = some ((yX10_appendNumber, cX10_appendNumber, 3, none), (10, 1, 1, 0)) := rfl
set_option maxRecDepth 10000 in
theorem ZX11_differ : zMeths[kX11_differ]? = some ((yX11_differ, cX11_differ, 7, some .int), (11, 2, 1, 1)) := rfl
set_option maxRecDepth 10000 in
theorem ZX11_paper : zMeths[kX11_paper]? = some ((yX11_paper, cX11_paper, 2, some .int), (11, 1, 1, 1)) := rfl
set_option maxRecDepth 10000 in
theorem ZX11_share : zMeths[kX11_share]? = some ((yX11_share, cX11_share, 3, some .long), (11, 2, 1, 3)) := rfl
set_option maxRecDepth 10000 in
theorem ZX11_weight : zMeths[kX11_weight]? = some ((yX11_weight, cX11_weight, 4, some .long), (11, 3, 1, 3)) := rfl
set_option maxRecDepth 10000 in
theorem ZX11_isHour : zMeths[kX11_isHour]? = some ((yX11_isHour, cX11_isHour, 1, some .boolean), (11, 1, 0, 2)) := rfl
set_option maxRecDepth 10000 in
theorem ZX11_scent : zMeths[kX11_scent]? = some ((yX11_scent, cX11_scent, 4, some .long), (11, 3, 1, 3)) := rfl
set_option maxRecDepth 10000 in
theorem ZX0_scentOfAll : zMeths[kX0_scentOfAll]? = some ((yX0_scentOfAll, cX0_scentOfAll, 3, some .float), (0, 0, 1, 4)) := rfl
set_option maxRecDepth 10000 in
theorem ZX0_scentOfFamily : zMeths[kX0_scentOfFamily]? = some ((yX0_scentOfFamily, cX0_scentOfFamily, 2, some .float), (0, 1, 1, 4)) := rfl
set_option maxRecDepth 10000 in
theorem ZX11_thousandths : zMeths[kX11_thousandths]? = some ((yX11_thousandths, cX11_thousandths, 3, some .long), (11, 2, 1, 3)) := rfl
set_option maxRecDepth 10000 in
theorem ZX11_leads : zMeths[kX11_leads]? = some ((yX11_leads, cX11_leads, 4, some .int), (11, 2, 1, 1)) := rfl
set_option maxRecDepth 10000 in
theorem ZX11_turn : zMeths[kX11_turn]? = some ((yX11_turn, cX11_turn, 4, some .int), (11, 2, 1, 1)) := rfl
set_option maxRecDepth 10000 in
theorem ZX11_faded : zMeths[kX11_faded]? = some ((yX11_faded, cX11_faded, 5, some .int), (11, 2, 1, 1)) := rfl
set_option maxRecDepth 10000 in
theorem ZX11_distance : zMeths[kX11_distance]? = some ((yX11_distance, cX11_distance, 3, some .long), (11, 2, 1, 3)) := rfl
set_option maxRecDepth 10000 in
theorem ZX11_nearer : zMeths[kX11_nearer]? = some ((yX11_nearer, cX11_nearer, 3, some .int), (11, 2, 1, 1)) := rfl
set_option maxRecDepth 10000 in
theorem ZX4_bestMore : zMeths[kX4_bestMore]? = some ((yX4_bestMore, cX4_bestMore, 10, some .int), (4, 3, 1, 1)) := rfl
set_option maxRecDepth 10000 in
theorem ZX11_wide : zMeths[kX11_wide]? = some ((yX11_wide, cX11_wide, 6, some .long), (11, 3, 1, 3)) := rfl
set_option maxRecDepth 10000 in
theorem ZX11_area : zMeths[kX11_area]? = some ((yX11_area, cX11_area, 5, some .long), (11, 2, 1, 3)) := rfl
set_option maxRecDepth 10000 in
theorem ZX11_thin : zMeths[kX11_thin]? = some ((yX11_thin, cX11_thin, 2, some .int), (11, 1, 1, 1)) := rfl
set_option maxRecDepth 10000 in
theorem ZX4_leastMissed : zMeths[kX4_leastMissed]? = some ((yX4_leastMissed, cX4_leastMissed, 6, some .int), (4, 1, 1, 1)) := rfl
set_option maxRecDepth 10000 in
theorem ZX11_substitute : zMeths[kX11_substitute]? = some ((yX11_substitute, cX11_substitute, 2, some .int), (11, 1, 1, 1)) := rfl
set_option maxRecDepth 10000 in
theorem ZX5_nearestKeep : zMeths[kX5_nearestKeep]? = some ((yX5_nearestKeep, cX5_nearestKeep, 6, some .int), (5, 1, 1, 1)) := rfl
set_option maxRecDepth 10000 in
theorem ZX11_replace : zMeths[kX11_replace]? = some ((yX11_replace, cX11_replace, 6, some .int), (11, 3, 1, 1)) := rfl
set_option maxRecDepth 10000 in
theorem ZX11_rank : zMeths[kX11_rank]? = some ((yX11_rank, cX11_rank, 3, some .int), (11, 2, 1, 1)) := rfl
set_option maxRecDepth 10000 in
theorem ZX1_atRank : zMeths[kX1_atRank]? = some ((yX1_atRank, cX1_atRank, 4, some .int), (1, 2, 1, 1)) := rfl
set_option maxRecDepth 10000 in
theorem ZX1_rankOf : zMeths[kX1_rankOf]? = some ((yX1_rankOf, cX1_rankOf, 5, some .int), (1, 2, 3, 1)) := rfl
set_option maxRecDepth 10000 in
theorem ZX1_isRankedAhead : zMeths[kX1_isRankedAhead]? = some ((yX1_isRankedAhead, cX1_isRankedAhead, 10, some .boolean), (1, 3, 3, 2)) := rfl
set_option maxRecDepth 10000 in
theorem ZX11_order : zMeths[kX11_order]? = some ((yX11_order, cX11_order, 4, some .int), (11, 3, 1, 1)) := rfl
set_option maxRecDepth 10000 in
theorem ZX6_append : zMeths[kX6_append]? = some ((yX6_append, cX6_append, 5, some .int), (6, 3, 1, 1)) := rfl
set_option maxRecDepth 10000 in
theorem ZX11_off : zMeths[kX11_off]? = some ((yX11_off, cX11_off, 2, some .int), (11, 1, 1, 1)) := rfl
set_option maxRecDepth 10000 in
theorem ZX6_has : zMeths[kX6_has]? = some ((yX6_has, cX6_has, 2, some .boolean), (6, 1, 1, 2)) := rfl
set_option maxRecDepth 10000 in
theorem ZX11_urge : zMeths[kX11_urge]? = some ((yX11_urge, cX11_urge, 4, some .int), (11, 2, 1, 1)) := rfl
set_option maxRecDepth 10000 in
theorem ZX11_orderOf : zMeths[kX11_orderOf]? = some ((yX11_orderOf, cX11_orderOf, 3, some .int), (11, 2, 1, 1)) := rfl
set_option maxRecDepth 10000 in
theorem ZX11_inTurn : zMeths[kX11_inTurn]? = some ((yX11_inTurn, cX11_inTurn, 2, some .int), (11, 1, 1, 1)) := rfl
set_option maxRecDepth 10000 in
theorem ZX6_listInTurn : zMeths[kX6_listInTurn]? = some ((yX6_listInTurn, cX6_listInTurn, 4, some .int), (6, 0, 1, 1)) := rfl
set_option maxRecDepth 10000 in
theorem ZX11_serve : zMeths[kX11_serve]? = some ((yX11_serve, cX11_serve, 1, some .int), (11, 0, 1, 1)) := rfl
set_option maxRecDepth 10000 in
theorem ZX1_serveOrders : zMeths[kX1_serveOrders]? = some ((yX1_serveOrders, cX1_serveOrders, 6, some .int), (1, 0, 1, 1)) := rfl
set_option maxRecDepth 10000 in
theorem ZX1_canMake : zMeths[kX1_canMake]? = some ((yX1_canMake, cX1_canMake, 4, some .boolean), (1, 2, 1, 2)) := rfl
set_option maxRecDepth 10000 in
theorem ZX9_firstLacking : zMeths[kX9_firstLacking]? = some ((yX9_firstLacking, cX9_firstLacking, 4, some .int), (9, 2, 1, 1)) := rfl
set_option maxRecDepth 10000 in
theorem ZX9_take : zMeths[kX9_take]? = some ((yX9_take, cX9_take, 5, some .int), (9, 3, 1, 1)) := rfl
set_option maxRecDepth 10000 in
theorem ZX9_write : zMeths[kX9_write]? = some ((yX9_write, cX9_write, 4, none), (9, 3, 3, 0)) := rfl
set_option maxRecDepth 10000 in
theorem ZX11_limit : zMeths[kX11_limit]? = some ((yX11_limit, cX11_limit, 4, some .int), (11, 2, 1, 1)) := rfl
set_option maxRecDepth 10000 in
theorem ZX11_fill : zMeths[kX11_fill]? = some ((yX11_fill, cX11_fill, 4, some .int), (11, 2, 1, 1)) := rfl
set_option maxRecDepth 10000 in
theorem ZX11_make : zMeths[kX11_make]? = some ((yX11_make, cX11_make, 3, some .int), (11, 2, 1, 1)) := rfl
set_option maxRecDepth 10000 in
theorem ZX11_lacks : zMeths[kX11_lacks]? = some ((yX11_lacks, cX11_lacks, 3, some .int), (11, 2, 1, 1)) := rfl
set_option maxRecDepth 10000 in
theorem ZX11_most : zMeths[kX11_most]? = some ((yX11_most, cX11_most, 3, some .int), (11, 1, 1, 1)) := rfl
set_option maxRecDepth 10000 in
theorem ZX9_timesEnough : zMeths[kX9_timesEnough]? = some ((yX9_timesEnough, cX9_timesEnough, 4, some .int), (9, 1, 1, 1)) := rfl
set_option maxRecDepth 10000 in
theorem ZJ9_min_7cf53 : zMeths[kJ9_min_7cf53]? = some ((yJ9_min_7cf53, cJ9_min_7cf53, 2, some .int), (22, 2, 0, 1)) := rfl
set_option maxRecDepth 10000 in
theorem ZX11_book : zMeths[kX11_book]? = some ((yX11_book, cX11_book, 4, some .int), (11, 2, 1, 1)) := rfl
set_option maxRecDepth 10000 in
theorem ZX11_told : zMeths[kX11_told]? = some ((yX11_told, cX11_told, 2, some .int), (11, 1, 1, 1)) := rfl
set_option maxRecDepth 10000 in
theorem ZX1_countFull : zMeths[kX1_countFull]? = some ((yX1_countFull, cX1_countFull, 5, some .int), (1, 2, 1, 1)) := rfl
set_option maxRecDepth 10000 in
theorem ZX9_stockOfAll : zMeths[kX9_stockOfAll]? = some ((yX9_stockOfAll, cX9_stockOfAll, 3, some .int), (9, 0, 1, 1)) := rfl
set_option maxRecDepth 10000 in
theorem ZX1_countShapes : zMeths[kX1_countShapes]? = some ((yX1_countShapes, cX1_countShapes, 4, some .int), (1, 0, 1, 1)) := rfl
set_option maxRecDepth 10000 in
theorem ZX11_row : zMeths[kX11_row]? = some ((yX11_row, cX11_row, 4, some .int), (11, 3, 1, 1)) := rfl
set_option maxRecDepth 10000 in
theorem ZX11_isRow : zMeths[kX11_isRow]? = some ((yX11_isRow, cX11_isRow, 1, some .boolean), (11, 1, 0, 2)) := rfl
set_option maxRecDepth 10000 in
theorem ZX8_become : zMeths[kX8_become]? = some ((yX8_become, cX8_become, 3, none), (8, 2, 1, 0)) := rfl
set_option maxRecDepth 10000 in
theorem ZX11_set : zMeths[kX11_set]? = some ((yX11_set, cX11_set, 5, some .int), (11, 3, 1, 1)) := rfl
set_option maxRecDepth 10000 in
theorem ZX8_hasPlace : zMeths[kX8_hasPlace]? = some ((yX8_hasPlace, cX8_hasPlace, 2, some .boolean), (8, 1, 1, 2)) := rfl
set_option maxRecDepth 10000 in
theorem ZX8_itemOfNumber : zMeths[kX8_itemOfNumber]? = some ((yX8_itemOfNumber, cX8_itemOfNumber, 3, some .int), (8, 1, 1, 1)) := rfl
set_option maxRecDepth 10000 in
theorem ZX11_get : zMeths[kX11_get]? = some ((yX11_get, cX11_get, 3, some .long), (11, 2, 1, 3)) := rfl
set_option maxRecDepth 10000 in
theorem ZX11_move : zMeths[kX11_move]? = some ((yX11_move, cX11_move, 8, some .int), (11, 5, 1, 1)) := rfl
set_option maxRecDepth 10000 in
theorem ZX8_hasPlaces : zMeths[kX8_hasPlaces]? = some ((yX8_hasPlaces, cX8_hasPlaces, 3, some .boolean), (8, 2, 1, 2)) := rfl
set_option maxRecDepth 10000 in
theorem ZX11_twin : zMeths[kX11_twin]? = some ((yX11_twin, cX11_twin, 3, some .int), (11, 2, 1, 1)) := rfl
set_option maxRecDepth 10000 in
theorem ZX8_takeFrom : zMeths[kX8_takeFrom]? = some ((yX8_takeFrom, cX8_takeFrom, 2, none), (8, 1, 1, 0)) := rfl
set_option maxRecDepth 10000 in
theorem ZX11_lay : zMeths[kX11_lay]? = some ((yX11_lay, cX11_lay, 6, some .int), (11, 3, 1, 1)) := rfl
set_option maxRecDepth 10000 in
theorem ZX8_hasPlaceFrom : zMeths[kX8_hasPlaceFrom]? = some ((yX8_hasPlaceFrom, cX8_hasPlaceFrom, 3, some .boolean), (8, 2, 1, 2)) := rfl
set_option maxRecDepth 10000 in
theorem ZX8_itemOfShare : zMeths[kX8_itemOfShare]? = some ((yX8_itemOfShare, cX8_itemOfShare, 3, some .int), (8, 1, 1, 1)) := rfl
set_option maxRecDepth 10000 in
theorem ZX11_judge : zMeths[kX11_judge]? = some ((yX11_judge, cX11_judge, 6, some .int), (11, 3, 1, 1)) := rfl
set_option maxRecDepth 10000 in
theorem ZX11_image : zMeths[kX11_image]? = some ((yX11_image, cX11_image, 1, some .int), (11, 0, 1, 1)) := rfl
set_option maxRecDepth 10000 in
theorem ZX1_takeFrom : zMeths[kX1_takeFrom]? = some ((yX1_takeFrom, cX1_takeFrom, 3, none), (1, 1, 1, 0)) := rfl
set_option maxRecDepth 10000 in
theorem ZX5_takeFrom : zMeths[kX5_takeFrom]? = some ((yX5_takeFrom, cX5_takeFrom, 2, none), (5, 1, 1, 0)) := rfl
set_option maxRecDepth 10000 in
theorem ZX9_takeFrom : zMeths[kX9_takeFrom]? = some ((yX9_takeFrom, cX9_takeFrom, 2, none), (9, 1, 1, 0)) := rfl
set_option maxRecDepth 10000 in
theorem ZX6_takeFrom : zMeths[kX6_takeFrom]? = some ((yX6_takeFrom, cX6_takeFrom, 2, none), (6, 1, 1, 0)) := rfl
set_option maxRecDepth 10000 in
theorem ZX11_undo : zMeths[kX11_undo]? = some ((yX11_undo, cX11_undo, 1, some .int), (11, 0, 1, 1)) := rfl
set_option maxRecDepth 10000 in
theorem ZX12_init : zMeths[kX12_init]? = some ((yX12_init, cX12_init, 2, none), (12, 0, 2, 5)) := rfl
set_option maxRecDepth 10000 in
theorem ZX12_feed : zMeths[kX12_feed]? = some ((yX12_feed, cX12_feed, 2, some .int), (12, 1, 1, 1)) := rfl
set_option maxRecDepth 10000 in
theorem ZX12_isIn : zMeths[kX12_isIn]? = some ((yX12_isIn, cX12_isIn, 3, some .boolean), (12, 3, 0, 2)) := rfl
set_option maxRecDepth 10000 in
theorem ZX12_clear : zMeths[kX12_clear]? = some ((yX12_clear, cX12_clear, 2, some .int), (12, 0, 1, 1)) := rfl
set_option maxRecDepth 10000 in
theorem ZX12_note : zMeths[kX12_note]? = some ((yX12_note, cX12_note, 8, some .int), (12, 3, 1, 1)) := rfl
set_option maxRecDepth 10000 in
theorem ZX12_lettersFrom : zMeths[kX12_lettersFrom]? = some ((yX12_lettersFrom, cX12_lettersFrom, 3, some .int), (12, 1, 3, 1)) := rfl
set_option maxRecDepth 10000 in
theorem ZX12_isLetter : zMeths[kX12_isLetter]? = some ((yX12_isLetter, cX12_isLetter, 2, some .boolean), (12, 1, 3, 2)) := rfl
set_option maxRecDepth 10000 in
theorem ZX12_noteBy : zMeths[kX12_noteBy]? = some ((yX12_noteBy, cX12_noteBy, 6, some .int), (12, 2, 3, 1)) := rfl
set_option maxRecDepth 10000 in
theorem ZX12_lengthOf : zMeths[kX12_lengthOf]? = some ((yX12_lengthOf, cX12_lengthOf, 3, some .int), (12, 1, 3, 1)) := rfl
set_option maxRecDepth 10000 in
theorem ZX12_noteAt : zMeths[kX12_noteAt]? = some ((yX12_noteAt, cX12_noteAt, 3, some .int), (12, 2, 3, 1)) := rfl
set_option maxRecDepth 10000 in
theorem ZX12_of : zMeths[kX12_of]? = some ((yX12_of, cX12_of, 3, some .int), (12, 2, 1, 1)) := rfl
set_option maxRecDepth 10000 in
theorem ZX12_isNote : zMeths[kX12_isNote]? = some ((yX12_isNote, cX12_isNote, 2, some .boolean), (12, 1, 3, 2)) := rfl
set_option maxRecDepth 10000 in
theorem ZX12_strength : zMeths[kX12_strength]? = some ((yX12_strength, cX12_strength, 2, some .float), (12, 1, 3, 4)) := rfl
set_option maxRecDepth 10000 in
theorem ZJxf58ca_floatToIntBits_5c35a : zMeths[kJxf58ca_floatToIntBits_5c35a]? = some ((yJxf58ca_floatToIntBits_5c35a, cJxf58ca_floatToIntBits_5c35a, 1, some .int), (21, 1, 0, 1)) := rfl
set_option maxRecDepth 10000 in
theorem ZJxf58ca_isNaN_12338 : zMeths[kJxf58ca_isNaN_12338]? = some ((yJxf58ca_isNaN_12338, cJxf58ca_isNaN_12338, 1, some .boolean), (21, 1, 0, 2)) := rfl
set_option maxRecDepth 10000 in
theorem ZX12_keep : zMeths[kX12_keep]? = some ((yX12_keep, cX12_keep, 3, some .float), (12, 1, 3, 4)) := rfl
set_option maxRecDepth 10000 in
theorem ZX12_placeOf : zMeths[kX12_placeOf]? = some ((yX12_placeOf, cX12_placeOf, 5, some .int), (12, 2, 3, 1)) := rfl
set_option maxRecDepth 10000 in
theorem ZX12_isAhead : zMeths[kX12_isAhead]? = some ((yX12_isAhead, cX12_isAhead, 4, some .boolean), (12, 2, 3, 2)) := rfl
set_option maxRecDepth 10000 in
theorem ZX12_isAheadByName : zMeths[kX12_isAheadByName]? = some ((yX12_isAheadByName, cX12_isAheadByName, 4, some .boolean), (12, 2, 3, 2)) := rfl
set_option maxRecDepth 10000 in
theorem ZX12_lasting : zMeths[kX12_lasting]? = some ((yX12_lasting, cX12_lasting, 4, some .int), (12, 2, 1, 1)) := rfl
set_option maxRecDepth 10000 in
theorem ZX12_name : zMeths[kX12_name]? = some ((yX12_name, cX12_name, 3, some .int), (12, 2, 1, 1)) := rfl
set_option maxRecDepth 10000 in
theorem ZX12_find : zMeths[kX12_find]? = some ((yX12_find, cX12_find, 3, some .int), (12, 0, 1, 1)) := rfl
set_option maxRecDepth 10000 in
theorem ZX12_byName : zMeths[kX12_byName]? = some ((yX12_byName, cX12_byName, 2, some .int), (12, 1, 1, 1)) := rfl
set_option maxRecDepth 10000 in
theorem ZX12_placed : zMeths[kX12_placed]? = some ((yX12_placed, cX12_placed, 4, some .int), (12, 2, 3, 1)) := rfl
set_option maxRecDepth 10000 in
theorem ZX12_organ : zMeths[kX12_organ]? = some ((yX12_organ, cX12_organ, 2, some .int), (12, 1, 1, 1)) := rfl
set_option maxRecDepth 10000 in
theorem ZX12_recipe : zMeths[kX12_recipe]? = some ((yX12_recipe, cX12_recipe, 2, some .int), (12, 1, 1, 1)) := rfl
set_option maxRecDepth 10000 in
theorem ZX12_isBlend : zMeths[kX12_isBlend]? = some ((yX12_isBlend, cX12_isBlend, 1, some .boolean), (12, 1, 0, 2)) := rfl
set_option maxRecDepth 10000 in
theorem ZX12_recipes : zMeths[kX12_recipes]? = some ((yX12_recipes, cX12_recipes, 5, some .int), (12, 2, 3, 1)) := rfl
set_option maxRecDepth 10000 in
theorem ZX12_parts : zMeths[kX12_parts]? = some ((yX12_parts, cX12_parts, 3, some .boolean), (12, 1, 3, 2)) := rfl
set_option maxRecDepth 10000 in
theorem ZX12_partDone : zMeths[kX12_partDone]? = some ((yX12_partDone, cX12_partDone, 6, some .boolean), (12, 1, 3, 2)) := rfl
set_option maxRecDepth 10000 in
theorem ZX12_sees : zMeths[kX12_sees]? = some ((yX12_sees, cX12_sees, 2, some .boolean), (12, 1, 3, 2)) := rfl
set_option maxRecDepth 10000 in
theorem ZX12_number : zMeths[kX12_number]? = some ((yX12_number, cX12_number, 4, some .int), (12, 1, 3, 1)) := rfl
set_option maxRecDepth 10000 in
theorem ZX12_fails : zMeths[kX12_fails]? = some ((yX12_fails, cX12_fails, 2, none), (12, 1, 3, 0)) := rfl
set_option maxRecDepth 10000 in
theorem ZX12_takes : zMeths[kX12_takes]? = some ((yX12_takes, cX12_takes, 2, none), (12, 1, 3, 0)) := rfl
set_option maxRecDepth 10000 in
theorem ZX12_shares : zMeths[kX12_shares]? = some ((yX12_shares, cX12_shares, 10, some .boolean), (12, 3, 3, 2)) := rfl
set_option maxRecDepth 10000 in
theorem ZX12_allInMind : zMeths[kX12_allInMind]? = some ((yX12_allInMind, cX12_allInMind, 3, some .int), (12, 0, 3, 1)) := rfl
set_option maxRecDepth 10000 in
theorem ZX12_allOf : zMeths[kX12_allOf]? = some ((yX12_allOf, cX12_allOf, 4, some .int), (12, 1, 3, 1)) := rfl
set_option maxRecDepth 10000 in
theorem ZX12_dropsOf : zMeths[kX12_dropsOf]? = some ((yX12_dropsOf, cX12_dropsOf, 3, some .int), (12, 2, 3, 1)) := rfl
set_option maxRecDepth 10000 in
theorem ZX12_comes : zMeths[kX12_comes]? = some ((yX12_comes, cX12_comes, 4, some .boolean), (12, 2, 3, 2)) := rfl
set_option maxRecDepth 10000 in
theorem ZX12_copies : zMeths[kX12_copies]? = some ((yX12_copies, cX12_copies, 3, none), (12, 2, 0, 0)) := rfl
set_option maxRecDepth 10000 in
theorem ZX12_accord : zMeths[kX12_accord]? = some ((yX12_accord, cX12_accord, 2, some .int), (12, 1, 1, 1)) := rfl
set_option maxRecDepth 10000 in
theorem ZX12_drop : zMeths[kX12_drop]? = some ((yX12_drop, cX12_drop, 5, some .int), (12, 3, 1, 1)) := rfl
set_option maxRecDepth 10000 in
theorem ZX12_drops : zMeths[kX12_drops]? = some ((yX12_drops, cX12_drops, 3, some .int), (12, 2, 1, 1)) := rfl
set_option maxRecDepth 10000 in
theorem ZX12_copy : zMeths[kX12_copy]? = some ((yX12_copy, cX12_copy, 4, some .int), (12, 2, 1, 1)) := rfl
set_option maxRecDepth 10000 in
theorem ZX12_scale : zMeths[kX12_scale]? = some ((yX12_scale, cX12_scale, 4, some .int), (12, 2, 1, 1)) := rfl
set_option maxRecDepth 10000 in
theorem ZX12_noFewer : zMeths[kX12_noFewer]? = some ((yX12_noFewer, cX12_noFewer, 4, some .int), (12, 1, 3, 1)) := rfl
set_option maxRecDepth 10000 in
theorem ZX12_mix : zMeths[kX12_mix]? = some ((yX12_mix, cX12_mix, 4, some .int), (12, 2, 1, 1)) := rfl
set_option maxRecDepth 10000 in
theorem ZX12_blend : zMeths[kX12_blend]? = some ((yX12_blend, cX12_blend, 5, some .int), (12, 2, 1, 1)) := rfl
set_option maxRecDepth 10000 in
theorem ZX12_turns : zMeths[kX12_turns]? = some ((yX12_turns, cX12_turns, 7, some .int), (12, 2, 3, 1)) := rfl
set_option maxRecDepth 10000 in
theorem ZX12_begins : zMeths[kX12_begins]? = some ((yX12_begins, cX12_begins, 3, none), (12, 1, 3, 0)) := rfl
set_option maxRecDepth 10000 in
theorem ZX12_leadsNow : zMeths[kX12_leadsNow]? = some ((yX12_leadsNow, cX12_leadsNow, 4, some .int), (12, 1, 3, 1)) := rfl
set_option maxRecDepth 10000 in
theorem ZX12_goes : zMeths[kX12_goes]? = some ((yX12_goes, cX12_goes, 2, none), (12, 0, 3, 0)) := rfl
set_option maxRecDepth 10000 in
theorem ZX12_broken : zMeths[kX12_broken]? = some ((yX12_broken, cX12_broken, 6, some .int), (12, 1, 3, 1)) := rfl
set_option maxRecDepth 10000 in
theorem ZX12_ofFamily : zMeths[kX12_ofFamily]? = some ((yX12_ofFamily, cX12_ofFamily, 5, some .int), (12, 2, 3, 1)) := rfl
set_option maxRecDepth 10000 in
theorem ZX12_likes : zMeths[kX12_likes]? = some ((yX12_likes, cX12_likes, 4, some .int), (12, 1, 3, 1)) := rfl
set_option maxRecDepth 10000 in
theorem ZX12_isLike : zMeths[kX12_isLike]? = some ((yX12_isLike, cX12_isLike, 8, some .boolean), (12, 2, 3, 2)) := rfl
set_option maxRecDepth 10000 in
theorem ZX12_nearest : zMeths[kX12_nearest]? = some ((yX12_nearest, cX12_nearest, 6, some .int), (12, 1, 3, 1)) := rfl
set_option maxRecDepth 10000 in
theorem ZX12_apart : zMeths[kX12_apart]? = some ((yX12_apart, cX12_apart, 7, some .float), (12, 2, 3, 4)) := rfl
set_option maxRecDepth 10000 in
theorem ZX12_share : zMeths[kX12_share]? = some ((yX12_share, cX12_share, 4, some .float), (12, 3, 3, 4)) := rfl
set_option maxRecDepth 10000 in
theorem ZX12_spell : zMeths[kX12_spell]? = some ((yX12_spell, cX12_spell, 3, some .int), (12, 1, 1, 1)) := rfl
set_option maxRecDepth 10000 in
theorem ZX12_organs : zMeths[kX12_organs]? = some ((yX12_organs, cX12_organs, 2, none), (12, 0, 3, 0)) := rfl
set_option maxRecDepth 10000 in
theorem ZX12_writesPart : zMeths[kX12_writesPart]? = some ((yX12_writesPart, cX12_writesPart, 4, none), (12, 2, 3, 0)) := rfl
set_option maxRecDepth 10000 in
theorem ZX12_writes : zMeths[kX12_writes]? = some ((yX12_writes, cX12_writes, 2, none), (12, 1, 3, 0)) := rfl
set_option maxRecDepth 10000 in
theorem ZX12_writesNumber : zMeths[kX12_writesNumber]? = some ((yX12_writesNumber, cX12_writesNumber, 2, none), (12, 1, 3, 0)) := rfl
set_option maxRecDepth 10000 in
theorem ZX12_differ : zMeths[kX12_differ]? = some ((yX12_differ, cX12_differ, 4, some .int), (12, 2, 1, 1)) := rfl
set_option maxRecDepth 10000 in
theorem ZX12_paper : zMeths[kX12_paper]? = some ((yX12_paper, cX12_paper, 2, some .int), (12, 1, 1, 1)) := rfl
set_option maxRecDepth 10000 in
theorem ZX12_share_ : zMeths[kX12_share_]? = some ((yX12_share_, cX12_share_, 3, some .long), (12, 2, 1, 3)) := rfl
set_option maxRecDepth 10000 in
theorem ZX12_weight : zMeths[kX12_weight]? = some ((yX12_weight, cX12_weight, 4, some .long), (12, 3, 1, 3)) := rfl
set_option maxRecDepth 10000 in
theorem ZX12_isHour : zMeths[kX12_isHour]? = some ((yX12_isHour, cX12_isHour, 1, some .boolean), (12, 1, 0, 2)) := rfl
set_option maxRecDepth 10000 in
theorem ZX12_goesTo : zMeths[kX12_goesTo]? = some ((yX12_goesTo, cX12_goesTo, 4, none), (12, 2, 3, 0)) := rfl
set_option maxRecDepth 10000 in
theorem ZX12_scent : zMeths[kX12_scent]? = some ((yX12_scent, cX12_scent, 4, some .long), (12, 3, 1, 3)) := rfl
set_option maxRecDepth 10000 in
theorem ZX12_scentNow : zMeths[kX12_scentNow]? = some ((yX12_scentNow, cX12_scentNow, 5, some .float), (12, 2, 3, 4)) := rfl
set_option maxRecDepth 10000 in
theorem ZX12_thousandths : zMeths[kX12_thousandths]? = some ((yX12_thousandths, cX12_thousandths, 3, some .long), (12, 2, 1, 3)) := rfl
set_option maxRecDepth 10000 in
theorem ZX12_leads : zMeths[kX12_leads]? = some ((yX12_leads, cX12_leads, 3, some .int), (12, 2, 1, 1)) := rfl
set_option maxRecDepth 10000 in
theorem ZX12_turn : zMeths[kX12_turn]? = some ((yX12_turn, cX12_turn, 3, some .int), (12, 2, 1, 1)) := rfl
set_option maxRecDepth 10000 in
theorem ZX12_faded : zMeths[kX12_faded]? = some ((yX12_faded, cX12_faded, 5, some .int), (12, 2, 1, 1)) := rfl
set_option maxRecDepth 10000 in
theorem ZX12_distance : zMeths[kX12_distance]? = some ((yX12_distance, cX12_distance, 3, some .long), (12, 2, 1, 3)) := rfl
set_option maxRecDepth 10000 in
theorem ZX12_nearer : zMeths[kX12_nearer]? = some ((yX12_nearer, cX12_nearer, 9, some .int), (12, 2, 1, 1)) := rfl
set_option maxRecDepth 10000 in
theorem ZX12_wide : zMeths[kX12_wide]? = some ((yX12_wide, cX12_wide, 6, some .long), (12, 3, 1, 3)) := rfl
set_option maxRecDepth 10000 in
theorem ZJxe99ae_doubleToLongBits_ccdee : zMeths[kJxe99ae_doubleToLongBits_ccdee]? = some ((yJxe99ae_doubleToLongBits_ccdee, cJxe99ae_doubleToLongBits_ccdee, 2, some .long), (20, 1, 0, 3)) := rfl
set_option maxRecDepth 10000 in
theorem ZJxe99ae_isNaN_b9ae7 : zMeths[kJxe99ae_isNaN_b9ae7]? = some ((yJxe99ae_isNaN_b9ae7, cJxe99ae_isNaN_b9ae7, 2, some .boolean), (20, 1, 0, 2)) := rfl
set_option maxRecDepth 10000 in
theorem ZX12_area : zMeths[kX12_area]? = some ((yX12_area, cX12_area, 5, some .long), (12, 2, 1, 3)) := rfl
set_option maxRecDepth 10000 in
theorem ZX12_thin : zMeths[kX12_thin]? = some ((yX12_thin, cX12_thin, 7, some .int), (12, 1, 1, 1)) := rfl
set_option maxRecDepth 10000 in
theorem ZX12_apartFromMind : zMeths[kX12_apartFromMind]? = some ((yX12_apartFromMind, cX12_apartFromMind, 6, some .float), (12, 2, 3, 4)) := rfl
set_option maxRecDepth 10000 in
theorem ZX12_substitute : zMeths[kX12_substitute]? = some ((yX12_substitute, cX12_substitute, 6, some .int), (12, 1, 1, 1)) := rfl
set_option maxRecDepth 10000 in
theorem ZX12_replace : zMeths[kX12_replace]? = some ((yX12_replace, cX12_replace, 5, some .int), (12, 3, 1, 1)) := rfl
set_option maxRecDepth 10000 in
theorem ZX12_rank : zMeths[kX12_rank]? = some ((yX12_rank, cX12_rank, 6, some .int), (12, 2, 1, 1)) := rfl
set_option maxRecDepth 10000 in
theorem ZX12_isRankedAhead : zMeths[kX12_isRankedAhead]? = some ((yX12_isRankedAhead, cX12_isRankedAhead, 8, some .boolean), (12, 3, 3, 2)) := rfl
set_option maxRecDepth 10000 in
theorem ZX12_order : zMeths[kX12_order]? = some ((yX12_order, cX12_order, 5, some .int), (12, 3, 1, 1)) := rfl
set_option maxRecDepth 10000 in
theorem ZX12_off : zMeths[kX12_off]? = some ((yX12_off, cX12_off, 2, some .int), (12, 1, 1, 1)) := rfl
set_option maxRecDepth 10000 in
theorem ZX12_isOrder : zMeths[kX12_isOrder]? = some ((yX12_isOrder, cX12_isOrder, 2, some .boolean), (12, 1, 3, 2)) := rfl
set_option maxRecDepth 10000 in
theorem ZX12_orderAt : zMeths[kX12_orderAt]? = some ((yX12_orderAt, cX12_orderAt, 3, some .int), (12, 2, 3, 1)) := rfl
set_option maxRecDepth 10000 in
theorem ZX12_urge : zMeths[kX12_urge]? = some ((yX12_urge, cX12_urge, 4, some .int), (12, 2, 1, 1)) := rfl
set_option maxRecDepth 10000 in
theorem ZX12_orderOf : zMeths[kX12_orderOf]? = some ((yX12_orderOf, cX12_orderOf, 3, some .int), (12, 2, 1, 1)) := rfl
set_option maxRecDepth 10000 in
theorem ZX12_inTurn : zMeths[kX12_inTurn]? = some ((yX12_inTurn, cX12_inTurn, 6, some .int), (12, 1, 1, 1)) := rfl
set_option maxRecDepth 10000 in
theorem ZX12_serve : zMeths[kX12_serve]? = some ((yX12_serve, cX12_serve, 4, some .int), (12, 0, 1, 1)) := rfl
set_option maxRecDepth 10000 in
theorem ZX12_make : zMeths[kX12_make]? = some ((yX12_make, cX12_make, 5, some .int), (12, 2, 1, 1)) := rfl
set_option maxRecDepth 10000 in
theorem ZX12_lacking : zMeths[kX12_lacking]? = some ((yX12_lacking, cX12_lacking, 4, some .int), (12, 2, 3, 1)) := rfl
set_option maxRecDepth 10000 in
theorem ZX12_limit : zMeths[kX12_limit]? = some ((yX12_limit, cX12_limit, 4, some .int), (12, 2, 1, 1)) := rfl
set_option maxRecDepth 10000 in
theorem ZX12_fill : zMeths[kX12_fill]? = some ((yX12_fill, cX12_fill, 3, some .int), (12, 2, 1, 1)) := rfl
set_option maxRecDepth 10000 in
theorem ZX12_lacks : zMeths[kX12_lacks]? = some ((yX12_lacks, cX12_lacks, 3, some .int), (12, 2, 1, 1)) := rfl
set_option maxRecDepth 10000 in
theorem ZX12_most : zMeths[kX12_most]? = some ((yX12_most, cX12_most, 3, some .int), (12, 1, 1, 1)) := rfl
set_option maxRecDepth 10000 in
theorem ZX12_book : zMeths[kX12_book]? = some ((yX12_book, cX12_book, 3, some .int), (12, 2, 1, 1)) := rfl
set_option maxRecDepth 10000 in
theorem ZX12_told : zMeths[kX12_told]? = some ((yX12_told, cX12_told, 4, some .int), (12, 1, 1, 1)) := rfl
set_option maxRecDepth 10000 in
theorem ZX12_notEmpty : zMeths[kX12_notEmpty]? = some ((yX12_notEmpty, cX12_notEmpty, 5, some .int), (12, 2, 3, 1)) := rfl
set_option maxRecDepth 10000 in
theorem ZX12_shapes : zMeths[kX12_shapes]? = some ((yX12_shapes, cX12_shapes, 3, some .int), (12, 0, 3, 1)) := rfl
set_option maxRecDepth 10000 in
theorem ZX12_opens : zMeths[kX12_opens]? = some ((yX12_opens, cX12_opens, 3, some .int), (12, 0, 3, 1)) := rfl
set_option maxRecDepth 10000 in
theorem ZX12_row : zMeths[kX12_row]? = some ((yX12_row, cX12_row, 5, some .int), (12, 3, 1, 1)) := rfl
set_option maxRecDepth 10000 in
theorem ZX12_isRow : zMeths[kX12_isRow]? = some ((yX12_isRow, cX12_isRow, 1, some .boolean), (12, 1, 0, 2)) := rfl
set_option maxRecDepth 10000 in
theorem ZX12_set : zMeths[kX12_set]? = some ((yX12_set, cX12_set, 5, some .int), (12, 3, 1, 1)) := rfl
set_option maxRecDepth 10000 in
theorem ZX12_get : zMeths[kX12_get]? = some ((yX12_get, cX12_get, 3, some .long), (12, 2, 1, 3)) := rfl
set_option maxRecDepth 10000 in
theorem ZX12_move : zMeths[kX12_move]? = some ((yX12_move, cX12_move, 7, some .int), (12, 5, 1, 1)) := rfl
set_option maxRecDepth 10000 in
theorem ZX12_twin : zMeths[kX12_twin]? = some ((yX12_twin, cX12_twin, 4, some .int), (12, 2, 1, 1)) := rfl
set_option maxRecDepth 10000 in
theorem ZX12_lay : zMeths[kX12_lay]? = some ((yX12_lay, cX12_lay, 6, some .int), (12, 3, 1, 1)) := rfl
set_option maxRecDepth 10000 in
theorem ZX12_shareAs : zMeths[kX12_shareAs]? = some ((yX12_shareAs, cX12_shareAs, 7, some .int), (12, 4, 3, 1)) := rfl
set_option maxRecDepth 10000 in
theorem ZX12_judge : zMeths[kX12_judge]? = some ((yX12_judge, cX12_judge, 6, some .int), (12, 3, 1, 1)) := rfl
set_option maxRecDepth 10000 in
theorem ZX12_image : zMeths[kX12_image]? = some ((yX12_image, cX12_image, 1, some .int), (12, 0, 1, 1)) := rfl
set_option maxRecDepth 10000 in
theorem ZX12_undo : zMeths[kX12_undo]? = some ((yX12_undo, cX12_undo, 1, some .int), (12, 0, 1, 1)) := rfl
set_option maxRecDepth 10000 in
theorem zMeths_len : zMeths.length = 280 := by decide +kernel
theorem zmN {k : Nat} (h : 1000 ≤ k := by decide) : zMeths[k]? = none := List.getElem?_eq_none (by rw [zMeths_len]; omega)
