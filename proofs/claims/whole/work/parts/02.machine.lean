def zI (k : Int) : Int32 := Int32.ofInt k
def zL (k : Int) : Int64 := Int64.ofInt k
/-! ===== THE PURE MACHINE: tables ===== -/
/-- a method: its name, code, locals, answer; its class, how many parameters, its kind (0 static, 1 of an object, 2 a constructor, 3 private of an object), what it answers (0 nothing, 1 int, 2 boolean, 3 long, 4 float) -/
abbrev zMT : Type := (MethodName × ByteArray × Nat × Option FieldType) × (Nat × Nat × Nat × Nat)
def kX11_init : Nat := 0
def kX1_init : Nat := 1
def kX5_init : Nat := 2
def kX9_init : Nat := 3
def kJ7_fill_53178 : Nat := 4
def kX6_init : Nat := 5
def kX3_init : Nat := 6
def kX10_init : Nat := 7
def kX7_init : Nat := 8
def kX2_init : Nat := 9
def kX4_init : Nat := 10
def kX0_init : Nat := 11
def kX8_init : Nat := 12
def kX11_feed : Nat := 13
def kX11_isWithin : Nat := 14
def kX10_append : Nat := 15
def kX11_clear : Nat := 16
def kX10_empty : Nat := 17
def kX11_note : Nat := 18
def kX11_isFamily : Nat := 19
def kX10_faultAsName : Nat := 20
def kX10_at : Nat := 21
def kX11_isLetter : Nat := 22
def kX10_wordAt : Nat := 23
def kX5_withName : Nat := 24
def kX5_append : Nat := 25
def kX11_of : Nat := 26
def kX11_isNote : Nat := 27
def kX5_strengthOf : Nat := 28
def kX11_bitsOf : Nat := 29
def kX11_magnitudeBits : Nat := 30
def kX5_keepOf : Nat := 31
def kX5_placeInOrgan : Nat := 32
def kX5_isAheadInOrgan : Nat := 33
def kX11_lasting : Nat := 34
def kX11_name : Nat := 35
def kX5_lettersOf : Nat := 36
def kX5_codeOf : Nat := 37
def kX5_letterOf : Nat := 38
def kX11_find : Nat := 39
def kX11_byName : Nat := 40
def kX5_atPlaceByName : Nat := 41
def kX5_placeByName : Nat := 42
def kX11_organ : Nat := 43
def kX5_listOrgan : Nat := 44
def kX11_recipe : Nat := 45
def kX11_isBlend : Nat := 46
def kX11_follow : Nat := 47
def kX7_read : Nat := 48
def kX7_readHead : Nat := 49
def kX7_keepHead : Nat := 50
def kX7_readAccord : Nat := 51
def kX7_readNumber : Nat := 52
def kX11_isFigure : Nat := 53
def kX7_readNote : Nat := 54
def kX2_doRecipe : Nat := 55
def kX3_takeFrom : Nat := 56
def kX2_doPart : Nat := 57
def kX2_become : Nat := 58
def kX3_put : Nat := 59
def kX2_shareOut : Nat := 60
def kX2_giveToGreatestRest : Nat := 61
def kX2_addAll : Nat := 62
def kX11_accord : Nat := 63
def kX11_drop : Nat := 64
def kX11_drops : Nat := 65
def kX11_copy : Nat := 66
def kX11_scale : Nat := 67
def kX3_notesWithDrops : Nat := 68
def kX11_mix : Nat := 69
def kX11_blend : Nat := 70
def kX11_listTurns : Nat := 71
def kX0_openAt : Nat := 72
def kX0_passHour : Nat := 73
def kX0_leader : Nat := 74
def kX0_listScents : Nat := 75
def kJ7_fill_e525d : Nat := 76
def kX1_brokenBy : Nat := 77
def kX3_dropsOfFamily : Nat := 78
def kX3_familiesWithDrops : Nat := 79
def kX1_othersOfShape : Nat := 80
def kX3_isOfShape : Nat := 81
def kX4_nearestTo : Nat := 82
def kX3_distanceTo : Nat := 83
def kX3_shareOf : Nat := 84
def kX11_amountBetween : Nat := 85
def kX11_spell : Nat := 86
def kX11_writePart : Nat := 87
def kX10_appendNumber : Nat := 88
def kX11_differ : Nat := 89
def kX11_paper : Nat := 90
def kX11_share : Nat := 91
def kX11_weight : Nat := 92
def kX11_isHour : Nat := 93
def kX11_scent : Nat := 94
def kX0_scentOfAll : Nat := 95
def kX0_scentOfFamily : Nat := 96
def kX11_thousandths : Nat := 97
def kX11_leads : Nat := 98
def kX11_turn : Nat := 99
def kX11_faded : Nat := 100
def kX11_distance : Nat := 101
def kX11_nearer : Nat := 102
def kX4_bestMore : Nat := 103
def kX11_wide : Nat := 104
def kX11_area : Nat := 105
def kX11_thin : Nat := 106
def kX4_leastMissed : Nat := 107
def kX11_substitute : Nat := 108
def kX5_nearestKeep : Nat := 109
def kX11_replace : Nat := 110
def kX11_rank : Nat := 111
def kX1_atRank : Nat := 112
def kX1_rankOf : Nat := 113
def kX1_isRankedAhead : Nat := 114
def kX11_order : Nat := 115
def kX6_append : Nat := 116
def kX11_off : Nat := 117
def kX6_has : Nat := 118
def kX11_urge : Nat := 119
def kX11_orderOf : Nat := 120
def kX11_inTurn : Nat := 121
def kX6_listInTurn : Nat := 122
def kX11_serve : Nat := 123
def kX1_serveOrders : Nat := 124
def kX1_canMake : Nat := 125
def kX9_firstLacking : Nat := 126
def kX9_take : Nat := 127
def kX9_write : Nat := 128
def kX11_limit : Nat := 129
def kX11_fill : Nat := 130
def kX11_make : Nat := 131
def kX11_lacks : Nat := 132
def kX11_most : Nat := 133
def kX9_timesEnough : Nat := 134
def kJ9_min_7cf53 : Nat := 135
def kX11_book : Nat := 136
def kX11_told : Nat := 137
def kX1_countFull : Nat := 138
def kX9_stockOfAll : Nat := 139
def kX1_countShapes : Nat := 140
def kX11_row : Nat := 141
def kX11_isRow : Nat := 142
def kX8_become : Nat := 143
def kX11_set : Nat := 144
def kX8_hasPlace : Nat := 145
def kX8_itemOfNumber : Nat := 146
def kX11_get : Nat := 147
def kX11_move : Nat := 148
def kX8_hasPlaces : Nat := 149
def kX11_twin : Nat := 150
def kX8_takeFrom : Nat := 151
def kX11_lay : Nat := 152
def kX8_hasPlaceFrom : Nat := 153
def kX8_itemOfShare : Nat := 154
def kX11_judge : Nat := 155
def kX11_image : Nat := 156
def kX1_takeFrom : Nat := 157
def kX5_takeFrom : Nat := 158
def kX9_takeFrom : Nat := 159
def kX6_takeFrom : Nat := 160
def kX11_undo : Nat := 161
def kX12_init : Nat := 162
def kX12_feed : Nat := 163
def kX12_isIn : Nat := 164
def kX12_clear : Nat := 165
def kX12_note : Nat := 166
def kX12_lettersFrom : Nat := 167
def kX12_isLetter : Nat := 168
def kX12_noteBy : Nat := 169
def kX12_lengthOf : Nat := 170
def kX12_noteAt : Nat := 171
def kX12_of : Nat := 172
def kX12_isNote : Nat := 173
def kX12_strength : Nat := 174
def kJxf58ca_floatToIntBits_5c35a : Nat := 175
def kJxf58ca_isNaN_12338 : Nat := 176
def kX12_keep : Nat := 177
def kX12_placeOf : Nat := 178
def kX12_isAhead : Nat := 179
def kX12_isAheadByName : Nat := 180
def kX12_lasting : Nat := 181
def kX12_name : Nat := 182
def kX12_find : Nat := 183
def kX12_byName : Nat := 184
def kX12_placed : Nat := 185
def kX12_organ : Nat := 186
def kX12_recipe : Nat := 187
def kX12_isBlend : Nat := 188
def kX12_recipes : Nat := 189
def kX12_parts : Nat := 190
def kX12_partDone : Nat := 191
def kX12_sees : Nat := 192
def kX12_number : Nat := 193
def kX12_fails : Nat := 194
def kX12_takes : Nat := 195
def kX12_shares : Nat := 196
def kX12_allInMind : Nat := 197
def kX12_allOf : Nat := 198
def kX12_dropsOf : Nat := 199
def kX12_comes : Nat := 200
def kX12_copies : Nat := 201
def kX12_accord : Nat := 202
def kX12_drop : Nat := 203
def kX12_drops : Nat := 204
def kX12_copy : Nat := 205
def kX12_scale : Nat := 206
def kX12_noFewer : Nat := 207
def kX12_mix : Nat := 208
def kX12_blend : Nat := 209
def kX12_turns : Nat := 210
def kX12_begins : Nat := 211
def kX12_leadsNow : Nat := 212
def kX12_goes : Nat := 213
def kX12_broken : Nat := 214
def kX12_ofFamily : Nat := 215
def kX12_likes : Nat := 216
def kX12_isLike : Nat := 217
def kX12_nearest : Nat := 218
def kX12_apart : Nat := 219
def kX12_share : Nat := 220
def kX12_spell : Nat := 221
def kX12_organs : Nat := 222
def kX12_writesPart : Nat := 223
def kX12_writes : Nat := 224
def kX12_writesNumber : Nat := 225
def kX12_differ : Nat := 226
def kX12_paper : Nat := 227
def kX12_share_ : Nat := 228
def kX12_weight : Nat := 229
def kX12_isHour : Nat := 230
def kX12_goesTo : Nat := 231
def kX12_scent : Nat := 232
def kX12_scentNow : Nat := 233
def kX12_thousandths : Nat := 234
def kX12_leads : Nat := 235
def kX12_turn : Nat := 236
def kX12_faded : Nat := 237
def kX12_distance : Nat := 238
def kX12_nearer : Nat := 239
def kX12_wide : Nat := 240
def kJxe99ae_doubleToLongBits_ccdee : Nat := 241
def kJxe99ae_isNaN_b9ae7 : Nat := 242
def kX12_area : Nat := 243
def kX12_thin : Nat := 244
def kX12_apartFromMind : Nat := 245
def kX12_substitute : Nat := 246
def kX12_replace : Nat := 247
def kX12_rank : Nat := 248
def kX12_isRankedAhead : Nat := 249
def kX12_order : Nat := 250
def kX12_off : Nat := 251
def kX12_isOrder : Nat := 252
def kX12_orderAt : Nat := 253
def kX12_urge : Nat := 254
def kX12_orderOf : Nat := 255
def kX12_inTurn : Nat := 256
def kX12_serve : Nat := 257
def kX12_make : Nat := 258
def kX12_lacking : Nat := 259
def kX12_limit : Nat := 260
def kX12_fill : Nat := 261
def kX12_lacks : Nat := 262
def kX12_most : Nat := 263
def kX12_book : Nat := 264
def kX12_told : Nat := 265
def kX12_notEmpty : Nat := 266
def kX12_shapes : Nat := 267
def kX12_opens : Nat := 268
def kX12_row : Nat := 269
def kX12_isRow : Nat := 270
def kX12_set : Nat := 271
def kX12_get : Nat := 272
def kX12_move : Nat := 273
def kX12_twin : Nat := 274
def kX12_lay : Nat := 275
def kX12_shareAs : Nat := 276
def kX12_judge : Nat := 277
def kX12_image : Nat := 278
def kX12_undo : Nat := 279
def zMeths_0 : List zMT := [((yX11_init, cX11_init, 2, none), (11, 0, 2, 5)), ((yX1_init, cX1_init, 2, none), (1, 0, 2, 5)), ((yX5_init, cX5_init, 1, none), (5, 0, 2, 5)), ((yX9_init, cX9_init, 1, none), (9, 0, 2, 5)), ((yJ7_fill_53178, cJ7_fill_53178, 4, none), (23, 2, 0, 0)), ((yX6_init, cX6_init, 1, none), (6, 0, 2, 5)), ((yX3_init, cX3_init, 1, none), (3, 0, 2, 5)), ((yX10_init, cX10_init, 2, none), (10, 1, 2, 5)), ((yX7_init, cX7_init, 3, none), (7, 2, 2, 5)), ((yX2_init, cX2_init, 1, none), (2, 0, 2, 5)), ((yX4_init, cX4_init, 1, none), (4, 0, 2, 5)), ((yX0_init, cX0_init, 1, none), (0, 0, 2, 5)), ((yX8_init, cX8_init, 1, none), (8, 0, 2, 5)), ((yX11_feed, cX11_feed, 2, some .int), (11, 1, 1, 1)), ((yX11_isWithin, cX11_isWithin, 3, some .boolean), (11, 3, 0, 2)), ((yX10_append, cX10_append, 2, none), (10, 1, 1, 0)), ((yX11_clear, cX11_clear, 1, some .int), (11, 0, 1, 1)), ((yX10_empty, cX10_empty, 2, some .int), (10, 0, 1, 1)), ((yX11_note, cX11_note, 8, some .int), (11, 3, 1, 1)), ((yX11_isFamily, cX11_isFamily, 1, some .boolean), (11, 1, 0, 2)), ((yX10_faultAsName, cX10_faultAsName, 2, some .int), (10, 0, 1, 1)), ((yX10_at, cX10_at, 2, some .int), (10, 1, 1, 1)), ((yX11_isLetter, cX11_isLetter, 1, some .boolean), (11, 1, 0, 2)), ((yX10_wordAt, cX10_wordAt, 8, some .long), (10, 2, 1, 3)), ((yX5_withName, cX5_withName, 4, some .int), (5, 1, 1, 1)), ((yX5_append, cX5_append, 7, some .int), (5, 4, 1, 1)), ((yX11_of, cX11_of, 3, some .int), (11, 2, 1, 1)), ((yX11_isNote, cX11_isNote, 2, some .boolean), (11, 1, 3, 2)), ((yX5_strengthOf, cX5_strengthOf, 2, some .float), (5, 1, 1, 4)), ((yX11_bitsOf, cX11_bitsOf, 1, some .int), (11, 1, 0, 1))]
def zMeths_1 : List zMT := [((yX11_magnitudeBits, cX11_magnitudeBits, 9, some .long), (11, 3, 0, 3)), ((yX5_keepOf, cX5_keepOf, 2, some .float), (5, 1, 1, 4)), ((yX5_placeInOrgan, cX5_placeInOrgan, 4, some .int), (5, 1, 1, 1)), ((yX5_isAheadInOrgan, cX5_isAheadInOrgan, 3, some .boolean), (5, 2, 1, 2)), ((yX11_lasting, cX11_lasting, 4, some .int), (11, 2, 1, 1)), ((yX11_name, cX11_name, 4, some .int), (11, 2, 1, 1)), ((yX5_lettersOf, cX5_lettersOf, 3, some .int), (5, 1, 1, 1)), ((yX5_codeOf, cX5_codeOf, 3, some .int), (5, 2, 3, 1)), ((yX5_letterOf, cX5_letterOf, 3, some .int), (5, 2, 1, 1)), ((yX11_find, cX11_find, 3, some .int), (11, 0, 1, 1)), ((yX11_byName, cX11_byName, 2, some .int), (11, 1, 1, 1)), ((yX5_atPlaceByName, cX5_atPlaceByName, 3, some .int), (5, 1, 1, 1)), ((yX5_placeByName, cX5_placeByName, 4, some .int), (5, 1, 1, 1)), ((yX11_organ, cX11_organ, 2, some .int), (11, 1, 1, 1)), ((yX5_listOrgan, cX5_listOrgan, 2, none), (5, 0, 1, 0)), ((yX11_recipe, cX11_recipe, 2, some .int), (11, 1, 1, 1)), ((yX11_isBlend, cX11_isBlend, 1, some .boolean), (11, 1, 0, 2)), ((yX11_follow, cX11_follow, 5, some .int), (11, 2, 3, 1)), ((yX7_read, cX7_read, 2, some .boolean), (7, 1, 1, 2)), ((yX7_readHead, cX7_readHead, 3, some .boolean), (7, 1, 3, 2)), ((yX7_keepHead, cX7_keepHead, 3, some .boolean), (7, 2, 3, 2)), ((yX7_readAccord, cX7_readAccord, 2, some .boolean), (7, 0, 3, 2)), ((yX7_readNumber, cX7_readNumber, 2, some .boolean), (7, 0, 3, 2)), ((yX11_isFigure, cX11_isFigure, 1, some .boolean), (11, 1, 0, 2)), ((yX7_readNote, cX7_readNote, 5, some .boolean), (7, 0, 3, 2)), ((yX2_doRecipe, cX2_doRecipe, 5, some .int), (2, 3, 1, 1)), ((yX3_takeFrom, cX3_takeFrom, 2, none), (3, 1, 1, 0)), ((yX2_doPart, cX2_doPart, 5, some .boolean), (2, 4, 3, 2)), ((yX2_become, cX2_become, 3, some .boolean), (2, 2, 3, 2)), ((yX3_put, cX3_put, 3, none), (3, 2, 1, 0))]
def zMeths_2 : List zMT := [((yX2_shareOut, cX2_shareOut, 8, some .boolean), (2, 3, 1, 2)), ((yX2_giveToGreatestRest, cX2_giveToGreatestRest, 4, none), (2, 1, 3, 0)), ((yX2_addAll, cX2_addAll, 4, some .boolean), (2, 2, 1, 2)), ((yX11_accord, cX11_accord, 2, some .int), (11, 1, 1, 1)), ((yX11_drop, cX11_drop, 5, some .int), (11, 3, 1, 1)), ((yX11_drops, cX11_drops, 3, some .int), (11, 2, 1, 1)), ((yX11_copy, cX11_copy, 3, some .int), (11, 2, 1, 1)), ((yX11_scale, cX11_scale, 4, some .int), (11, 2, 1, 1)), ((yX3_notesWithDrops, cX3_notesWithDrops, 3, some .int), (3, 0, 1, 1)), ((yX11_mix, cX11_mix, 3, some .int), (11, 2, 1, 1)), ((yX11_blend, cX11_blend, 4, some .int), (11, 2, 1, 1)), ((yX11_listTurns, cX11_listTurns, 6, some .int), (11, 1, 3, 1)), ((yX0_openAt, cX0_openAt, 5, none), (0, 3, 1, 0)), ((yX0_passHour, cX0_passHour, 2, none), (0, 0, 1, 0)), ((yX0_leader, cX0_leader, 3, some .int), (0, 0, 1, 1)), ((yX0_listScents, cX0_listScents, 2, none), (0, 0, 3, 0)), ((yJ7_fill_e525d, cJ7_fill_e525d, 4, none), (23, 2, 0, 0)), ((yX1_brokenBy, cX1_brokenBy, 5, some .int), (1, 1, 1, 1)), ((yX3_dropsOfFamily, cX3_dropsOfFamily, 5, some .int), (3, 2, 1, 1)), ((yX3_familiesWithDrops, cX3_familiesWithDrops, 4, some .int), (3, 1, 1, 1)), ((yX1_othersOfShape, cX1_othersOfShape, 4, some .int), (1, 1, 1, 1)), ((yX3_isOfShape, cX3_isOfShape, 3, some .boolean), (3, 1, 1, 2)), ((yX4_nearestTo, cX4_nearestTo, 7, some .int), (4, 2, 1, 1)), ((yX3_distanceTo, cX3_distanceTo, 4, some .float), (3, 1, 1, 4)), ((yX3_shareOf, cX3_shareOf, 2, some .float), (3, 1, 1, 4)), ((yX11_amountBetween, cX11_amountBetween, 2, some .float), (11, 2, 0, 4)), ((yX11_spell, cX11_spell, 5, some .int), (11, 1, 1, 1)), ((yX11_writePart, cX11_writePart, 5, none), (11, 2, 3, 0)), ((yX10_appendNumber, cX10_appendNumber, 3, none), (10, 1, 1, 0)), ((yX11_differ, cX11_differ, 7, some .int), (11, 2, 1, 1))]
def zMeths_3 : List zMT := [((yX11_paper, cX11_paper, 2, some .int), (11, 1, 1, 1)), ((yX11_share, cX11_share, 3, some .long), (11, 2, 1, 3)), ((yX11_weight, cX11_weight, 4, some .long), (11, 3, 1, 3)), ((yX11_isHour, cX11_isHour, 1, some .boolean), (11, 1, 0, 2)), ((yX11_scent, cX11_scent, 4, some .long), (11, 3, 1, 3)), ((yX0_scentOfAll, cX0_scentOfAll, 3, some .float), (0, 0, 1, 4)), ((yX0_scentOfFamily, cX0_scentOfFamily, 2, some .float), (0, 1, 1, 4)), ((yX11_thousandths, cX11_thousandths, 3, some .long), (11, 2, 1, 3)), ((yX11_leads, cX11_leads, 4, some .int), (11, 2, 1, 1)), ((yX11_turn, cX11_turn, 4, some .int), (11, 2, 1, 1)), ((yX11_faded, cX11_faded, 5, some .int), (11, 2, 1, 1)), ((yX11_distance, cX11_distance, 3, some .long), (11, 2, 1, 3)), ((yX11_nearer, cX11_nearer, 3, some .int), (11, 2, 1, 1)), ((yX4_bestMore, cX4_bestMore, 10, some .int), (4, 3, 1, 1)), ((yX11_wide, cX11_wide, 6, some .long), (11, 3, 1, 3)), ((yX11_area, cX11_area, 5, some .long), (11, 2, 1, 3)), ((yX11_thin, cX11_thin, 2, some .int), (11, 1, 1, 1)), ((yX4_leastMissed, cX4_leastMissed, 6, some .int), (4, 1, 1, 1)), ((yX11_substitute, cX11_substitute, 2, some .int), (11, 1, 1, 1)), ((yX5_nearestKeep, cX5_nearestKeep, 6, some .int), (5, 1, 1, 1)), ((yX11_replace, cX11_replace, 6, some .int), (11, 3, 1, 1)), ((yX11_rank, cX11_rank, 3, some .int), (11, 2, 1, 1)), ((yX1_atRank, cX1_atRank, 4, some .int), (1, 2, 1, 1)), ((yX1_rankOf, cX1_rankOf, 5, some .int), (1, 2, 3, 1)), ((yX1_isRankedAhead, cX1_isRankedAhead, 10, some .boolean), (1, 3, 3, 2)), ((yX11_order, cX11_order, 4, some .int), (11, 3, 1, 1)), ((yX6_append, cX6_append, 5, some .int), (6, 3, 1, 1)), ((yX11_off, cX11_off, 2, some .int), (11, 1, 1, 1)), ((yX6_has, cX6_has, 2, some .boolean), (6, 1, 1, 2)), ((yX11_urge, cX11_urge, 4, some .int), (11, 2, 1, 1))]
def zMeths_4 : List zMT := [((yX11_orderOf, cX11_orderOf, 3, some .int), (11, 2, 1, 1)), ((yX11_inTurn, cX11_inTurn, 2, some .int), (11, 1, 1, 1)), ((yX6_listInTurn, cX6_listInTurn, 4, some .int), (6, 0, 1, 1)), ((yX11_serve, cX11_serve, 1, some .int), (11, 0, 1, 1)), ((yX1_serveOrders, cX1_serveOrders, 6, some .int), (1, 0, 1, 1)), ((yX1_canMake, cX1_canMake, 4, some .boolean), (1, 2, 1, 2)), ((yX9_firstLacking, cX9_firstLacking, 4, some .int), (9, 2, 1, 1)), ((yX9_take, cX9_take, 5, some .int), (9, 3, 1, 1)), ((yX9_write, cX9_write, 4, none), (9, 3, 3, 0)), ((yX11_limit, cX11_limit, 4, some .int), (11, 2, 1, 1)), ((yX11_fill, cX11_fill, 4, some .int), (11, 2, 1, 1)), ((yX11_make, cX11_make, 3, some .int), (11, 2, 1, 1)), ((yX11_lacks, cX11_lacks, 3, some .int), (11, 2, 1, 1)), ((yX11_most, cX11_most, 3, some .int), (11, 1, 1, 1)), ((yX9_timesEnough, cX9_timesEnough, 4, some .int), (9, 1, 1, 1)), ((yJ9_min_7cf53, cJ9_min_7cf53, 2, some .int), (22, 2, 0, 1)), ((yX11_book, cX11_book, 4, some .int), (11, 2, 1, 1)), ((yX11_told, cX11_told, 2, some .int), (11, 1, 1, 1)), ((yX1_countFull, cX1_countFull, 5, some .int), (1, 2, 1, 1)), ((yX9_stockOfAll, cX9_stockOfAll, 3, some .int), (9, 0, 1, 1)), ((yX1_countShapes, cX1_countShapes, 4, some .int), (1, 0, 1, 1)), ((yX11_row, cX11_row, 4, some .int), (11, 3, 1, 1)), ((yX11_isRow, cX11_isRow, 1, some .boolean), (11, 1, 0, 2)), ((yX8_become, cX8_become, 3, none), (8, 2, 1, 0)), ((yX11_set, cX11_set, 5, some .int), (11, 3, 1, 1)), ((yX8_hasPlace, cX8_hasPlace, 2, some .boolean), (8, 1, 1, 2)), ((yX8_itemOfNumber, cX8_itemOfNumber, 3, some .int), (8, 1, 1, 1)), ((yX11_get, cX11_get, 3, some .long), (11, 2, 1, 3)), ((yX11_move, cX11_move, 8, some .int), (11, 5, 1, 1)), ((yX8_hasPlaces, cX8_hasPlaces, 3, some .boolean), (8, 2, 1, 2))]
def zMeths_5 : List zMT := [((yX11_twin, cX11_twin, 3, some .int), (11, 2, 1, 1)), ((yX8_takeFrom, cX8_takeFrom, 2, none), (8, 1, 1, 0)), ((yX11_lay, cX11_lay, 6, some .int), (11, 3, 1, 1)), ((yX8_hasPlaceFrom, cX8_hasPlaceFrom, 3, some .boolean), (8, 2, 1, 2)), ((yX8_itemOfShare, cX8_itemOfShare, 3, some .int), (8, 1, 1, 1)), ((yX11_judge, cX11_judge, 6, some .int), (11, 3, 1, 1)), ((yX11_image, cX11_image, 1, some .int), (11, 0, 1, 1)), ((yX1_takeFrom, cX1_takeFrom, 3, none), (1, 1, 1, 0)), ((yX5_takeFrom, cX5_takeFrom, 2, none), (5, 1, 1, 0)), ((yX9_takeFrom, cX9_takeFrom, 2, none), (9, 1, 1, 0)), ((yX6_takeFrom, cX6_takeFrom, 2, none), (6, 1, 1, 0)), ((yX11_undo, cX11_undo, 1, some .int), (11, 0, 1, 1)), ((yX12_init, cX12_init, 2, none), (12, 0, 2, 5)), ((yX12_feed, cX12_feed, 2, some .int), (12, 1, 1, 1)), ((yX12_isIn, cX12_isIn, 3, some .boolean), (12, 3, 0, 2)), ((yX12_clear, cX12_clear, 2, some .int), (12, 0, 1, 1)), ((yX12_note, cX12_note, 8, some .int), (12, 3, 1, 1)), ((yX12_lettersFrom, cX12_lettersFrom, 3, some .int), (12, 1, 3, 1)), ((yX12_isLetter, cX12_isLetter, 2, some .boolean), (12, 1, 3, 2)), ((yX12_noteBy, cX12_noteBy, 6, some .int), (12, 2, 3, 1)), ((yX12_lengthOf, cX12_lengthOf, 3, some .int), (12, 1, 3, 1)), ((yX12_noteAt, cX12_noteAt, 3, some .int), (12, 2, 3, 1)), ((yX12_of, cX12_of, 3, some .int), (12, 2, 1, 1)), ((yX12_isNote, cX12_isNote, 2, some .boolean), (12, 1, 3, 2)), ((yX12_strength, cX12_strength, 2, some .float), (12, 1, 3, 4)), ((yJxf58ca_floatToIntBits_5c35a, cJxf58ca_floatToIntBits_5c35a, 1, some .int), (21, 1, 0, 1)), ((yJxf58ca_isNaN_12338, cJxf58ca_isNaN_12338, 1, some .boolean), (21, 1, 0, 2)), ((yX12_keep, cX12_keep, 3, some .float), (12, 1, 3, 4)), ((yX12_placeOf, cX12_placeOf, 5, some .int), (12, 2, 3, 1)), ((yX12_isAhead, cX12_isAhead, 4, some .boolean), (12, 2, 3, 2))]
def zMeths_6 : List zMT := [((yX12_isAheadByName, cX12_isAheadByName, 4, some .boolean), (12, 2, 3, 2)), ((yX12_lasting, cX12_lasting, 4, some .int), (12, 2, 1, 1)), ((yX12_name, cX12_name, 3, some .int), (12, 2, 1, 1)), ((yX12_find, cX12_find, 3, some .int), (12, 0, 1, 1)), ((yX12_byName, cX12_byName, 2, some .int), (12, 1, 1, 1)), ((yX12_placed, cX12_placed, 4, some .int), (12, 2, 3, 1)), ((yX12_organ, cX12_organ, 2, some .int), (12, 1, 1, 1)), ((yX12_recipe, cX12_recipe, 2, some .int), (12, 1, 1, 1)), ((yX12_isBlend, cX12_isBlend, 1, some .boolean), (12, 1, 0, 2)), ((yX12_recipes, cX12_recipes, 5, some .int), (12, 2, 3, 1)), ((yX12_parts, cX12_parts, 3, some .boolean), (12, 1, 3, 2)), ((yX12_partDone, cX12_partDone, 6, some .boolean), (12, 1, 3, 2)), ((yX12_sees, cX12_sees, 2, some .boolean), (12, 1, 3, 2)), ((yX12_number, cX12_number, 4, some .int), (12, 1, 3, 1)), ((yX12_fails, cX12_fails, 2, none), (12, 1, 3, 0)), ((yX12_takes, cX12_takes, 2, none), (12, 1, 3, 0)), ((yX12_shares, cX12_shares, 10, some .boolean), (12, 3, 3, 2)), ((yX12_allInMind, cX12_allInMind, 3, some .int), (12, 0, 3, 1)), ((yX12_allOf, cX12_allOf, 4, some .int), (12, 1, 3, 1)), ((yX12_dropsOf, cX12_dropsOf, 3, some .int), (12, 2, 3, 1)), ((yX12_comes, cX12_comes, 4, some .boolean), (12, 2, 3, 2)), ((yX12_copies, cX12_copies, 3, none), (12, 2, 0, 0)), ((yX12_accord, cX12_accord, 2, some .int), (12, 1, 1, 1)), ((yX12_drop, cX12_drop, 5, some .int), (12, 3, 1, 1)), ((yX12_drops, cX12_drops, 3, some .int), (12, 2, 1, 1)), ((yX12_copy, cX12_copy, 4, some .int), (12, 2, 1, 1)), ((yX12_scale, cX12_scale, 4, some .int), (12, 2, 1, 1)), ((yX12_noFewer, cX12_noFewer, 4, some .int), (12, 1, 3, 1)), ((yX12_mix, cX12_mix, 4, some .int), (12, 2, 1, 1)), ((yX12_blend, cX12_blend, 5, some .int), (12, 2, 1, 1))]
def zMeths_7 : List zMT := [((yX12_turns, cX12_turns, 7, some .int), (12, 2, 3, 1)), ((yX12_begins, cX12_begins, 3, none), (12, 1, 3, 0)), ((yX12_leadsNow, cX12_leadsNow, 4, some .int), (12, 1, 3, 1)), ((yX12_goes, cX12_goes, 2, none), (12, 0, 3, 0)), ((yX12_broken, cX12_broken, 6, some .int), (12, 1, 3, 1)), ((yX12_ofFamily, cX12_ofFamily, 5, some .int), (12, 2, 3, 1)), ((yX12_likes, cX12_likes, 4, some .int), (12, 1, 3, 1)), ((yX12_isLike, cX12_isLike, 8, some .boolean), (12, 2, 3, 2)), ((yX12_nearest, cX12_nearest, 6, some .int), (12, 1, 3, 1)), ((yX12_apart, cX12_apart, 7, some .float), (12, 2, 3, 4)), ((yX12_share, cX12_share, 4, some .float), (12, 3, 3, 4)), ((yX12_spell, cX12_spell, 3, some .int), (12, 1, 1, 1)), ((yX12_organs, cX12_organs, 2, none), (12, 0, 3, 0)), ((yX12_writesPart, cX12_writesPart, 4, none), (12, 2, 3, 0)), ((yX12_writes, cX12_writes, 2, none), (12, 1, 3, 0)), ((yX12_writesNumber, cX12_writesNumber, 2, none), (12, 1, 3, 0)), ((yX12_differ, cX12_differ, 4, some .int), (12, 2, 1, 1)), ((yX12_paper, cX12_paper, 2, some .int), (12, 1, 1, 1)), ((yX12_share_, cX12_share_, 3, some .long), (12, 2, 1, 3)), ((yX12_weight, cX12_weight, 4, some .long), (12, 3, 1, 3)), ((yX12_isHour, cX12_isHour, 1, some .boolean), (12, 1, 0, 2)), ((yX12_goesTo, cX12_goesTo, 4, none), (12, 2, 3, 0)), ((yX12_scent, cX12_scent, 4, some .long), (12, 3, 1, 3)), ((yX12_scentNow, cX12_scentNow, 5, some .float), (12, 2, 3, 4)), ((yX12_thousandths, cX12_thousandths, 3, some .long), (12, 2, 1, 3)), ((yX12_leads, cX12_leads, 3, some .int), (12, 2, 1, 1)), ((yX12_turn, cX12_turn, 3, some .int), (12, 2, 1, 1)), ((yX12_faded, cX12_faded, 5, some .int), (12, 2, 1, 1)), ((yX12_distance, cX12_distance, 3, some .long), (12, 2, 1, 3)), ((yX12_nearer, cX12_nearer, 9, some .int), (12, 2, 1, 1))]
def zMeths_8 : List zMT := [((yX12_wide, cX12_wide, 6, some .long), (12, 3, 1, 3)), ((yJxe99ae_doubleToLongBits_ccdee, cJxe99ae_doubleToLongBits_ccdee, 2, some .long), (20, 1, 0, 3)), ((yJxe99ae_isNaN_b9ae7, cJxe99ae_isNaN_b9ae7, 2, some .boolean), (20, 1, 0, 2)), ((yX12_area, cX12_area, 5, some .long), (12, 2, 1, 3)), ((yX12_thin, cX12_thin, 7, some .int), (12, 1, 1, 1)), ((yX12_apartFromMind, cX12_apartFromMind, 6, some .float), (12, 2, 3, 4)), ((yX12_substitute, cX12_substitute, 6, some .int), (12, 1, 1, 1)), ((yX12_replace, cX12_replace, 5, some .int), (12, 3, 1, 1)), ((yX12_rank, cX12_rank, 6, some .int), (12, 2, 1, 1)), ((yX12_isRankedAhead, cX12_isRankedAhead, 8, some .boolean), (12, 3, 3, 2)), ((yX12_order, cX12_order, 5, some .int), (12, 3, 1, 1)), ((yX12_off, cX12_off, 2, some .int), (12, 1, 1, 1)), ((yX12_isOrder, cX12_isOrder, 2, some .boolean), (12, 1, 3, 2)), ((yX12_orderAt, cX12_orderAt, 3, some .int), (12, 2, 3, 1)), ((yX12_urge, cX12_urge, 4, some .int), (12, 2, 1, 1)), ((yX12_orderOf, cX12_orderOf, 3, some .int), (12, 2, 1, 1)), ((yX12_inTurn, cX12_inTurn, 6, some .int), (12, 1, 1, 1)), ((yX12_serve, cX12_serve, 4, some .int), (12, 0, 1, 1)), ((yX12_make, cX12_make, 5, some .int), (12, 2, 1, 1)), ((yX12_lacking, cX12_lacking, 4, some .int), (12, 2, 3, 1)), ((yX12_limit, cX12_limit, 4, some .int), (12, 2, 1, 1)), ((yX12_fill, cX12_fill, 3, some .int), (12, 2, 1, 1)), ((yX12_lacks, cX12_lacks, 3, some .int), (12, 2, 1, 1)), ((yX12_most, cX12_most, 3, some .int), (12, 1, 1, 1)), ((yX12_book, cX12_book, 3, some .int), (12, 2, 1, 1)), ((yX12_told, cX12_told, 4, some .int), (12, 1, 1, 1)), ((yX12_notEmpty, cX12_notEmpty, 5, some .int), (12, 2, 3, 1)), ((yX12_shapes, cX12_shapes, 3, some .int), (12, 0, 3, 1)), ((yX12_opens, cX12_opens, 3, some .int), (12, 0, 3, 1)), ((yX12_row, cX12_row, 5, some .int), (12, 3, 1, 1))]
def zMeths_9 : List zMT := [((yX12_isRow, cX12_isRow, 1, some .boolean), (12, 1, 0, 2)), ((yX12_set, cX12_set, 5, some .int), (12, 3, 1, 1)), ((yX12_get, cX12_get, 3, some .long), (12, 2, 1, 3)), ((yX12_move, cX12_move, 7, some .int), (12, 5, 1, 1)), ((yX12_twin, cX12_twin, 4, some .int), (12, 2, 1, 1)), ((yX12_lay, cX12_lay, 6, some .int), (12, 3, 1, 1)), ((yX12_shareAs, cX12_shareAs, 7, some .int), (12, 4, 3, 1)), ((yX12_judge, cX12_judge, 6, some .int), (12, 3, 1, 1)), ((yX12_image, cX12_image, 1, some .int), (12, 0, 1, 1)), ((yX12_undo, cX12_undo, 1, some .int), (12, 0, 1, 1))]
def zMeths : List zMT := zMeths_0 ++ (zMeths_1 ++ (zMeths_2 ++ (zMeths_3 ++ (zMeths_4 ++ (zMeths_5 ++ (zMeths_6 ++ (zMeths_7 ++ (zMeths_8 ++ (zMeths_9)))))))))
/-- the classes whose code is run, by their numbers -/
def zOwns : List (Nat × String) := [(0, RX0), (1, RX1), (2, RX2), (3, RX3), (4, RX4), (5, RX5), (6, RX6), (7, RX7), (8, RX8), (9, RX9), (10, RX10), (11, RX11), (12, RX12), (13, RL), (20, RJxe99ae), (21, RJxf58ca), (22, RJ9), (23, RJ7)]
def zR (own : Nat) : String := (zOwns.lookup own).getD ""
/-- the links of methods: by class, the index; the method, whether it is a nest mate's -/
def zLk_0 : List (Nat × Nat × Nat × Nat) := [(13, 9, 0, 0), (11, 5, 1004, 0), (11, 13, 1, 0), (1, 3, 1004, 0), (1, 11, 2, 1), (5, 3, 1004, 0), (1, 26, 3, 0), (9, 3, 1004, 0), (9, 27, 4, 0), (1, 33, 5, 1), (6, 3, 1004, 0), (1, 38, 6, 1), (3, 3, 1004, 0), (11, 23, 7, 0), (10, 3, 1004, 0), (11, 39, 8, 0), (7, 3, 1004, 0), (11, 48, 9, 1), (2, 3, 1004, 0), (2, 11, 6, 1), (11, 55, 10, 1), (4, 3, 1004, 0), (4, 11, 6, 1), (11, 62, 11, 1), (0, 3, 1004, 0), (11, 77, 12, 1), (8, 3, 1004, 0), (13, 13, 13, 0), (11, 78, 14, 0), (11, 86, 15, 0), (13, 18, 16, 0), (11, 89, 17, 0), (13, 23, 18, 0), (11, 93, 19, 0), (11, 97, 20, 0), (10, 23, 21, 0), (10, 27, 22, 1), (11, 100, 23, 0), (11, 104, 24, 0), (11, 113, 25, 0)]
def zLk_1 : List (Nat × Nat × Nat × Nat) := [(13, 28, 26, 0), (11, 116, 27, 0), (11, 128, 28, 0), (11, 132, 29, 0), (11, 283, 30, 0), (11, 136, 31, 0), (11, 139, 32, 0), (5, 37, 33, 0), (13, 33, 34, 0), (13, 37, 35, 0), (11, 152, 36, 0), (5, 33, 37, 0), (11, 155, 38, 0), (13, 41, 39, 0), (13, 45, 40, 0), (11, 159, 41, 0), (5, 45, 42, 0), (13, 49, 43, 0), (11, 162, 44, 0), (5, 41, 32, 0), (13, 53, 45, 0), (11, 168, 46, 0), (11, 175, 47, 0), (11, 179, 48, 0), (7, 36, 49, 0), (7, 52, 21, 0), (7, 55, 50, 0), (7, 59, 51, 0), (7, 40, 52, 0), (7, 79, 53, 1), (7, 62, 22, 1), (7, 66, 54, 0), (7, 69, 23, 0), (7, 73, 24, 0), (11, 186, 55, 0), (2, 40, 56, 0), (3, 19, 1000, 0), (2, 57, 57, 0), (2, 61, 58, 0), (2, 73, 14, 1)]
def zLk_2 : List (Nat × Nat × Nat × Nat) := [(2, 32, 59, 0), (2, 65, 60, 0), (2, 36, 61, 0), (2, 69, 62, 0), (13, 57, 63, 0), (13, 61, 64, 0), (11, 198, 59, 0), (13, 65, 65, 0), (13, 69, 66, 0), (11, 202, 56, 0), (13, 73, 67, 0), (11, 206, 60, 0), (11, 210, 68, 0), (13, 77, 69, 0), (11, 213, 62, 0), (13, 81, 70, 0), (11, 217, 71, 0), (11, 251, 72, 0), (0, 37, 28, 0), (0, 41, 31, 0), (0, 45, 73, 0), (11, 267, 74, 0), (0, 48, 75, 0), (0, 51, 76, 0), (11, 270, 73, 0), (11, 221, 77, 0), (1, 52, 78, 0), (11, 224, 79, 0), (11, 228, 80, 0), (1, 96, 81, 0), (11, 231, 82, 0), (4, 22, 83, 0), (3, 33, 84, 0), (3, 37, 85, 1), (13, 85, 86, 0), (11, 235, 87, 0), (11, 238, 88, 0), (10, 19, 15, 0), (13, 89, 89, 0), (13, 93, 90, 0)]
def zLk_3 : List (Nat × Nat × Nat × Nat) := [(11, 241, 21, 0), (13, 97, 91, 0), (11, 245, 84, 0), (13, 102, 92, 0), (11, 248, 93, 0), (13, 107, 94, 0), (11, 259, 95, 0), (11, 263, 96, 0), (13, 111, 97, 0), (13, 115, 98, 0), (13, 119, 99, 0), (13, 123, 100, 0), (13, 127, 101, 0), (11, 273, 83, 0), (13, 131, 102, 0), (11, 277, 103, 0), (4, 26, 56, 0), (4, 34, 59, 0), (13, 135, 104, 0), (13, 139, 105, 0), (13, 143, 106, 0), (11, 289, 107, 0), (4, 38, 68, 0), (13, 147, 108, 0), (11, 292, 109, 0), (5, 48, 31, 0), (5, 52, 85, 1), (13, 151, 110, 0), (13, 155, 111, 0), (11, 295, 112, 0), (1, 104, 113, 0), (1, 108, 114, 0), (13, 159, 115, 0), (11, 305, 116, 0), (13, 163, 117, 0), (11, 308, 118, 0), (6, 31, 14, 1), (13, 167, 119, 0), (13, 171, 120, 0), (13, 175, 121, 0)]
def zLk_4 : List (Nat × Nat × Nat × Nat) := [(11, 323, 122, 0), (13, 179, 123, 0), (11, 329, 124, 0), (1, 72, 122, 0), (1, 85, 125, 0), (1, 64, 77, 0), (1, 68, 126, 0), (1, 89, 127, 0), (9, 48, 128, 0), (9, 55, 1000, 0), (13, 183, 129, 0), (13, 187, 130, 0), (13, 191, 131, 0), (11, 336, 125, 0), (11, 340, 127, 0), (13, 195, 132, 0), (11, 344, 126, 0), (13, 199, 133, 0), (11, 348, 134, 0), (9, 38, 135, 0), (13, 203, 136, 0), (13, 207, 137, 0), (11, 363, 138, 0), (11, 366, 139, 0), (11, 369, 140, 0), (1, 100, 80, 0), (13, 211, 141, 0), (11, 372, 142, 0), (11, 375, 143, 0), (8, 15, 4, 0), (13, 217, 144, 0), (11, 382, 145, 0), (11, 388, 146, 0), (8, 38, 29, 1), (13, 222, 147, 0), (13, 226, 148, 0), (11, 394, 149, 0), (11, 397, 1000, 0), (13, 231, 150, 0), (11, 403, 151, 0)]
def zLk_5 : List (Nat × Nat × Nat × Nat) := [(8, 32, 1000, 0), (13, 235, 152, 0), (11, 407, 153, 0), (11, 410, 154, 0), (13, 239, 155, 0), (13, 243, 156, 0), (11, 413, 157, 0), (1, 39, 158, 0), (5, 56, 1000, 0), (1, 43, 56, 0), (1, 46, 159, 0), (1, 49, 160, 0), (6, 35, 1000, 0), (13, 247, 161, 0), (13, 12, 162, 0), (12, 3, 1004, 0), (13, 17, 163, 0), (12, 56, 164, 0), (13, 22, 165, 0), (13, 27, 166, 0), (12, 79, 167, 0), (12, 71, 168, 0), (12, 82, 169, 0), (12, 75, 170, 0), (12, 64, 171, 0), (13, 32, 172, 0), (12, 97, 173, 0), (12, 100, 174, 0), (12, 104, 175, 0), (21, 59, 176, 0), (21, 74, 1001, 0), (12, 110, 177, 0), (12, 93, 178, 0), (12, 90, 179, 0), (12, 86, 180, 0), (13, 36, 181, 0), (13, 40, 182, 0), (13, 44, 183, 0), (13, 48, 184, 0), (12, 113, 185, 0)]
def zLk_6 : List (Nat × Nat × Nat × Nat) := [(13, 52, 186, 0), (13, 56, 187, 0), (12, 169, 188, 0), (12, 172, 189, 0), (12, 166, 190, 0), (12, 162, 191, 0), (12, 122, 192, 0), (12, 138, 193, 0), (12, 125, 194, 0), (12, 141, 195, 0), (12, 148, 196, 0), (12, 129, 197, 0), (12, 133, 198, 0), (12, 60, 199, 0), (12, 152, 200, 0), (12, 155, 201, 0), (13, 60, 202, 0), (13, 64, 203, 0), (13, 68, 204, 0), (13, 72, 205, 0), (13, 76, 206, 0), (12, 175, 207, 0), (13, 80, 208, 0), (13, 84, 209, 0), (12, 190, 210, 0), (12, 228, 211, 0), (12, 246, 212, 0), (12, 231, 213, 0), (12, 193, 214, 0), (12, 178, 215, 0), (12, 196, 216, 0), (12, 183, 217, 0), (12, 199, 218, 0), (12, 186, 219, 0), (12, 218, 220, 0), (12, 222, 1005, 0), (22, 68, 1001, 0), (22, 162, 1002, 0), (13, 88, 221, 0), (12, 211, 222, 0)]
def zLk_7 : List (Nat × Nat × Nat × Nat) := [(12, 214, 223, 0), (12, 208, 224, 0), (12, 205, 225, 0), (13, 92, 226, 0), (13, 96, 227, 0), (13, 101, 228, 0), (13, 106, 229, 0), (12, 236, 230, 0), (12, 239, 231, 0), (13, 110, 232, 0), (12, 242, 233, 0), (13, 114, 234, 0), (13, 118, 235, 0), (13, 122, 236, 0), (13, 126, 237, 0), (13, 130, 238, 0), (13, 134, 239, 0), (13, 138, 240, 0), (12, 251, 241, 0), (20, 122, 242, 0), (20, 134, 1003, 0), (13, 142, 243, 0), (13, 146, 244, 0), (12, 259, 245, 0), (13, 150, 246, 0), (13, 154, 247, 0), (13, 158, 248, 0), (12, 262, 249, 0), (13, 162, 250, 0), (13, 166, 251, 0), (12, 265, 252, 0), (12, 268, 253, 0), (13, 170, 254, 0), (13, 174, 255, 0), (13, 178, 256, 0), (13, 182, 257, 0), (12, 271, 258, 0), (12, 275, 259, 0), (13, 186, 260, 0), (13, 190, 261, 0)]
def zLk_8 : List (Nat × Nat × Nat × Nat) := [(13, 194, 258, 0), (13, 198, 262, 0), (13, 202, 263, 0), (13, 206, 264, 0), (13, 210, 265, 0), (12, 278, 266, 0), (12, 281, 267, 0), (12, 284, 268, 0), (13, 214, 269, 0), (12, 287, 270, 0), (13, 221, 271, 0), (13, 225, 272, 0), (13, 230, 273, 0), (13, 234, 274, 0), (13, 238, 275, 0), (12, 290, 276, 0), (13, 242, 277, 0), (13, 246, 278, 0), (13, 250, 279, 0)]
def zLks : List (Nat × Nat × Nat × Nat) := zLk_0 ++ (zLk_1 ++ (zLk_2 ++ (zLk_3 ++ (zLk_4 ++ (zLk_5 ++ (zLk_6 ++ (zLk_7 ++ (zLk_8))))))))
/-- the links of fields: the class, the index; the class that has it, its slot -/
def zFls : List (Nat × Nat × Nat × Nat) := [(5, 9, 5, 0), (5, 15, 5, 1), (0, 44, 5, 1), (3, 30, 5, 1), (11, 119, 5, 1), (5, 19, 5, 2), (11, 122, 5, 2), (5, 22, 5, 3), (11, 125, 5, 3), (5, 25, 5, 4), (11, 165, 5, 4), (5, 28, 5, 5), (0, 25, 5, 5), (11, 110, 5, 5), (3, 25, 5, 5), (9, 9, 9, 0), (1, 56, 9, 0), (11, 332, 9, 0), (9, 15, 9, 1), (11, 147, 9, 1), (9, 18, 9, 2), (11, 354, 9, 2), (9, 21, 9, 3), (11, 357, 9, 3), (9, 24, 9, 4), (11, 360, 9, 4), (9, 52, 9, 5), (11, 351, 9, 5), (6, 9, 6, 0), (1, 79, 6, 0), (11, 317, 6, 0), (6, 15, 6, 1), (1, 82, 6, 1), (11, 320, 6, 1), (6, 18, 6, 2), (11, 314, 6, 2), (6, 21, 6, 3), (1, 93, 6, 3), (11, 311, 6, 3), (6, 24, 6, 4), (1, 76, 6, 4), (11, 326, 6, 4), (6, 27, 6, 5), (11, 302, 6, 5), (3, 9, 3, 0), (2, 29, 3, 0), (0, 32, 3, 0), (9, 33, 3, 0), (4, 30, 3, 0), (11, 195, 3, 0), (2, 25, 3, 1), (3, 15, 3, 1), (4, 18, 3, 1), (1, 60, 3, 1), (9, 44, 3, 1), (11, 190, 3, 1), (1, 12, 1, 0), (11, 35, 1, 0), (1, 20, 1, 1), (11, 171, 1, 1), (1, 27, 1, 2), (11, 143, 1, 2), (1, 34, 1, 3), (11, 298, 1, 3), (10, 9, 10, 0), (10, 15, 10, 1), (11, 82, 10, 1), (7, 47, 10, 1), (7, 9, 7, 0), (2, 48, 7, 0), (7, 15, 7, 1), (2, 51, 7, 1), (7, 18, 7, 2), (2, 54, 7, 2), (7, 21, 7, 3), (7, 25, 7, 4), (7, 33, 7, 5), (2, 43, 7, 5), (7, 29, 7, 6), (11, 183, 7, 6), (7, 44, 7, 7), (2, 12, 2, 0), (2, 18, 2, 1), (2, 21, 2, 2), (4, 12, 4, 0), (0, 9, 0, 0), (11, 255, 0, 0), (0, 15, 0, 1), (0, 18, 0, 2), (0, 22, 0, 3), (0, 31, 0, 4), (8, 9, 8, 0), (11, 385, 8, 0), (8, 21, 8, 1), (11, 378, 8, 1), (8, 25, 8, 2), (11, 391, 8, 2), (8, 29, 8, 3), (11, 406, 8, 3), (11, 14, 11, 0), (11, 18, 11, 1), (11, 416, 11, 2), (11, 26, 11, 3), (11, 30, 11, 4), (11, 42, 11, 5), (11, 49, 11, 6), (11, 56, 11, 7), (11, 63, 11, 8), (11, 69, 11, 9), (11, 73, 11, 10), (12, 11, 12, 0), (12, 15, 12, 1), (12, 294, 12, 2), (12, 18, 12, 3), (12, 21, 12, 4), (12, 24, 12, 5), (12, 27, 12, 6), (12, 30, 12, 7), (12, 33, 12, 8), (12, 67, 12, 9), (12, 202, 12, 10), (12, 119, 12, 11), (12, 116, 12, 12), (12, 159, 12, 13), (12, 144, 12, 14), (12, 37, 12, 15), (12, 41, 12, 16), (12, 44, 12, 17), (12, 47, 12, 18), (12, 50, 12, 19), (12, 53, 12, 20)]
def zCons : List (Nat × Nat × Value) := [(5, 32, .float 1120403456), (11, 422, .double 4611686018427387904), (11, 421, .int (zI (-2147483648))), (11, 243, .long (zL (-9223372036854775808))), (11, 266, .float 1148846080), (11, 281, .double 4613937818241073152), (11, 287, .long (zL 4294967295)), (11, 335, .int (zI 99999)), (8, 42, .float 1148846080), (12, 85, .float 1120403456), (21, 77, .int (zI 2143289344)), (12, 136, .long (zL (-1))), (12, 181, .long (zL 1000)), (22, 134, .int (zI 2147483647)), (12, 234, .long (zL (-9223372036854775808))), (12, 245, .float 1148846080), (12, 249, .double 4613937818241073152), (20, 137, .long (zL 9221120237041090560)), (12, 257, .long (zL 4294967295)), (12, 274, .int (zI 99999)), (13, 215, .long (zL 4294967295))]
def zCls : List (Nat × Nat × Nat) := [(13, 7, 11), (11, 11, 1), (1, 9, 5), (1, 18, 3), (1, 24, 9), (1, 31, 6), (11, 21, 10), (11, 33, 7), (11, 46, 2), (2, 9, 3), (11, 53, 4), (4, 9, 3), (11, 60, 0), (11, 67, 8), (13, 10, 12)]
/-- what a new object holds -/
def zNew : List (List Value) := [[.null, .null, .null, .null, .int 0], [.null, .null, .null, .null], [.null, .null, .null], [.null, .int 0], [.null], [.null, .null, .null, .null, .null, .int 0], [.null, .null, .null, .null, .null, .int 0], [.null, .null, .null, .null, .null, .int 0, .int 0, .int 0], [.null, .int 0, .int 0, .int 0], [.null, .null, .null, .null, .null, .int 0], [.null, .int 0], [.null, .null, .int 0, .null, .null, .null, .null, .null, .null, .null, .null], [.null, .null, .int 0, .null, .null, .null, .null, .null, .null, .int 0, .int 0, .int 0, .int 0, .int 0, .int 0, .null, .null, .null, .null, .null, .null]]
/-- the types of the classes' fields -/
def zTy : Nat → Nat → FieldType := fun ci => match ci with
  | 0 => tyX0
  | 1 => tyX1
  | 2 => tyX2
  | 3 => tyX3
  | 4 => tyX4
  | 5 => tyX5
  | 6 => tyX6
  | 7 => tyX7
  | 8 => tyX8
  | 9 => tyX9
  | 10 => tyX10
  | 11 => tyX11
  | _ => tyX12
/-- the arrays that are made: their tags -/
def zAt : List FieldType := [.int, .long, .float, .byte, .object RX3, .object RX8]
def zT : Nat → u_T := fun ci => match ci with
  | 0 => TX0
  | 1 => TX1
  | 2 => TX2
  | 3 => TX3
  | 4 => TX4
  | 5 => TX5
  | 6 => TX6
  | 7 => TX7
  | 8 => TX8
  | 9 => TX9
  | 10 => TX10
  | 11 => TX11
  | _ => TX12
def zN (ci : Nat) : Nat := [5, 4, 3, 2, 1, 6, 6, 8, 4, 6, 2, 11, 21].getD ci 0
def zfin (ci k : Nat) : Bool := (zT ci k).2.2.2
/-! ===== THE PURE MACHINE: worlds, locals, one instruction ===== -/
abbrev zLoc : Type := List (Option Value)
/-- a cell: an array (its tag of zAt, its length and what it holds), or an object (its class in vwCl, its fields) -/
abbrev zC : Type := (Nat × vp_A) ⊕ (Nat × List Value)
/-- the heap's size and the slots that were made; the cells by their addresses -/
abbrev zW : Type := (Nat × Nat) × (Nat → Option zC)
abbrev zA : Type := Option Value × zW
abbrev zS : Type := Nat × zLoc × List Value × zW
/-- what an instruction comes to: it goes on (after a jump: true), or the method answers -/
abbrev zO : Type := Option ((Bool × zS) ⊕ zA)
abbrev zM : Type := Nat → List Value → zW → Option zA
def zgo (pc : Nat) (L : zLoc) (st : List Value) (w : zW) : zO := some (.inl (false, pc, L, st, w))
def zjp (pc : Nat) (L : zLoc) (st : List Value) (w : zW) : zO := some (.inl (true, pc, L, st, w))
def zup {α : Type} (f : Nat → α) (k : Nat) (v : α) : Nat → α := fun j => if j = k then v else f j
def zset (w : zW) (a : Nat) (c : zC) : zW := (w.1, zup w.2 a (some c))
def znew (w : zW) (n : Nat) (c : zC) : zW := ((w.1.1 + 1, w.1.2 + n), zup w.2 w.1.1 (some c))
def zld (L : zLoc) (i : Nat) : Option Value := match L[i]? with
  | some (some v) => some v
  | _ => none
/-- the slot ahead, when one is written: a long or double there is gone -/
def zkp : Option Value → Option Value
  | some (.long _) => none
  | some (.double _) => none
  | v => v
def zst1 : zLoc → Nat → Value → Option zLoc
  | [], _, _ => none
  | _ :: t, 0, v => some (some v :: t)
  | p :: t, i + 1, v => match i with
    | 0 => (zst1 t 0 v).map (zkp p :: ·)
    | _ => (zst1 t i v).map (p :: ·)
def zst2 (L : zLoc) (i : Nat) (v : Value) : Option zLoc := if i + 1 < L.length then (zst1 L i v).map (fun L1 => L1.set (i + 1) none) else none
def zin (i : Int32) (n : Nat) : Bool := decide (0 ≤ i.toInt) && decide (i.toInt < n)
def ztg (pc : Nat) (off : Int) : Option Nat := if 0 ≤ (pc : Int) + off then some ((pc : Int) + off).toNat else none
def zbr (pc : Nat) (off : Int) (c : Prop) (h : Decidable c) (L : zLoc) (st : List Value) (w : zW) : zO := match ztg pc off with
  | some t => zjp (@ite _ c h t (pc + 3)) L st w
  | none => none
def zpop : Nat → List Value → List Value → Option (List Value × List Value)
  | 0, st, acc => some (acc, st)
  | n + 1, v :: st, acc => zpop n st (v :: acc)
  | _ + 1, [], _ => none
def zb0 (r : Option zA) (K : zW → zO) : zO := match r with
  | some (none, w) => K w
  | _ => none
def zb1 (r : Option zA) (K : Value → zW → zO) : zO := match r with
  | some (some v, w) => K v w
  | _ => none
def zback (r : Option zA) (rt pc : Nat) (L : zLoc) (st : List Value) : zO :=
  if rt = 0 ∨ rt = 5 then zb0 r (fun w => zgo (pc + 3) L st w) else zb1 r (fun v w => zgo (pc + 3) L (v :: st) w)
def zlk (own idx : Nat) : Option (Nat × Nat) := (zLks.find? (fun q => q.1 == own && q.2.1 == idx)).map (fun q => q.2.2)
def zfl (own idx : Nat) : Option (Nat × Nat) := (zFls.find? (fun q => q.1 == own && q.2.1 == idx)).map (fun q => q.2.2)
def zcon (own idx : Nat) : Option Value := (zCons.find? (fun q => q.1 == own && q.2.1 == idx)).map (fun q => q.2.2)
def zcl (own idx : Nat) : Option Nat := (zCls.find? (fun q => q.1 == own && q.2.1 == idx)).map (fun q => q.2.2)
def zget (ci k : Nat) (c : Option zC) (K : Value → zO) : zO := match c with
  | some (.inr (d, fs)) => if d = ci then (match fs[k]? with
    | some v => K v
    | none => none) else none
  | _ => none
def zput (ci k : Nat) (v : Value) (c : Option zC) (K : zC → zO) : zO := match c with
  | some (.inr (d, fs)) => if d = ci ∧ k < fs.length then K (.inr (ci, fs.set k v)) else none
  | _ => none
def zcls (ci : Nat) (c : Option zC) (r : zO) : zO := match c with
  | some (.inr (d, _)) => if d = ci then r else none
  | _ => none
def zil (c : Option zC) (t : Nat) (i : Int32) (K : Int32 → zO) : zO := match c with
  | some (.inl (u, n, .inl f)) => if (u = t ∨ u = 9 ∧ t = 0) ∧ zin i n = true then K (f i.toNatClampNeg) else none
  | _ => none
def zll (c : Option zC) (i : Int32) (K : Int64 → zO) : zO := match c with
  | some (.inl (u, n, .inr (.inl f))) => if u = 1 ∧ zin i n = true then K (f i.toNatClampNeg) else none
  | _ => none
def zfll (c : Option zC) (i : Int32) (K : UInt32 → zO) : zO := match c with
  | some (.inl (u, n, .inr (.inr (.inl f)))) => if u = 2 ∧ zin i n = true then K (f i.toNatClampNeg) else none
  | _ => none
def zal (c : Option zC) (i : Int32) (K : Nat → zO) : zO := match c with
  | some (.inl (u, n, .inr (.inr (.inr (.inr f))))) => if (u = 4 ∨ u = 5) ∧ zin i n = true then (match f i.toNatClampNeg with
    | some a => K a
    | none => none) else none
  | _ => none
def zis (c : Option zC) (t : Nat) (i x : Int32) (K : zC → zO) : zO := match c with
  | some (.inl (u, n, .inl f)) => if u = t ∧ zin i n = true then K (.inl (u, n, .inl (upd f i.toNatClampNeg x))) else none
  | _ => none
def zls (c : Option zC) (i : Int32) (x : Int64) (K : zC → zO) : zO := match c with
  | some (.inl (u, n, .inr (.inl f))) => if u = 1 ∧ zin i n = true then K (.inl (u, n, .inr (.inl (vp_updL f i.toNatClampNeg x)))) else none
  | _ => none
def zfs (c : Option zC) (i : Int32) (x : UInt32) (K : zC → zO) : zO := match c with
  | some (.inl (u, n, .inr (.inr (.inl f)))) => if u = 2 ∧ zin i n = true then K (.inl (u, n, .inr (.inr (.inl (vf_upd f i.toNatClampNeg x))))) else none
  | _ => none
def zas (c d : Option zC) (i : Int32) (a : Nat) (K : zC → zO) : zO := match c with
  | some (.inl (u, n, .inr (.inr (.inr (.inr f))))) => (match d with
    | some (.inr (e, _)) => if ((u = 4 ∧ e = 3) ∨ (u = 5 ∧ e = 8)) ∧ zin i n = true then K (.inl (u, n, .inr (.inr (.inr (.inr (va_up f i.toNatClampNeg (some a))))))) else none
    | _ => none)
  | _ => none
def zlen (c : Option zC) (K : Nat → zO) : zO := match c with
  | some (.inl (u, n, .inl _)) => if u < 6 ∨ u = 9 then K n else none
  | some (.inl (u, n, _)) => if u < 6 then K n else none
  | _ => none
/-- System.arraycopy: of ints, of longs -/
def zcpy (c d : Option zC) (sp dp n : Int32) (K : zC → zO) : zO := match c, d with
  | some (.inl (u, n0, .inl f)), some (.inl (v, n1, .inl g)) => if u = 0 ∧ v = 0 ∧ 0 ≤ sp.toInt ∧ 0 ≤ dp.toInt ∧ 0 ≤ n.toInt ∧ sp.toInt + n.toInt ≤ n0 ∧ dp.toInt + n.toInt ≤ n1 then K (.inl (0, n1, .inl (va_cpy f g sp.toNatClampNeg dp.toNatClampNeg n.toNatClampNeg))) else none
  | some (.inl (u, n0, .inr (.inl f))), some (.inl (v, n1, .inr (.inl g))) => if u = 1 ∧ v = 1 ∧ 0 ≤ sp.toInt ∧ 0 ≤ dp.toInt ∧ 0 ≤ n.toInt ∧ sp.toInt + n.toInt ≤ n0 ∧ dp.toInt + n.toInt ≤ n1 then K (.inl (1, n1, .inr (.inl (va_cpy f g sp.toNatClampNeg dp.toNatClampNeg n.toNatClampNeg)))) else none
  | _, _ => none
def zlod (L : zLoc) (i pc t : Nat) (st : List Value) (w : zW) : zO := match zld L i with
  | some (.int x) => if t = 0 then zgo pc L (.int x :: st) w else none
  | some (.long x) => if t = 1 then zgo pc L (.long x :: st) w else none
  | some (.float x) => if t = 2 then zgo pc L (.float x :: st) w else none
  | some (.double x) => if t = 3 then zgo pc L (.double x :: st) w else none
  | some (.ref x) => if t = 4 then zgo pc L (.ref x :: st) w else none
  | _ => none
def zsto (L : zLoc) (i pc t : Nat) (st : List Value) (w : zW) : zO := match st with
  | .int x :: st => if t = 0 then (match zst1 L i (.int x) with
    | some L1 => zgo pc L1 st w
    | none => none) else none
  | .long x :: st => if t = 1 then (match zst2 L i (.long x) with
    | some L1 => zgo pc L1 st w
    | none => none) else none
  | .float x :: st => if t = 2 then (match zst1 L i (.float x) with
    | some L1 => zgo pc L1 st w
    | none => none) else none
  | .double x :: st => if t = 3 then (match zst2 L i (.double x) with
    | some L1 => zgo pc L1 st w
    | none => none) else none
  | .ref x :: st => if t = 4 then (match zst1 L i (.ref x) with
    | some L1 => zgo pc L1 st w
    | none => none) else none
  | _ => none
/-- two ints from the stack; two longs, floats, doubles -/
def zii (pc : Nat) (L : zLoc) (w : zW) (st : List Value) (F : Int32 → Int32 → Option Value) : zO := match st with
  | .int y :: .int x :: st => (match F x y with
    | some v => zgo pc L (v :: st) w
    | none => none)
  | _ => none
def zjj (pc : Nat) (L : zLoc) (w : zW) (st : List Value) (F : Int64 → Int64 → Option Value) : zO := match st with
  | .long y :: .long x :: st => (match F x y with
    | some v => zgo pc L (v :: st) w
    | none => none)
  | _ => none
def zff (pc : Nat) (L : zLoc) (w : zW) (st : List Value) (F : UInt32 → UInt32 → Option Value) : zO := match st with
  | .float y :: .float x :: st => (match F x y with
    | some v => zgo pc L (v :: st) w
    | none => none)
  | _ => none
def zdd (pc : Nat) (L : zLoc) (w : zW) (st : List Value) (F : UInt64 → UInt64 → Option Value) : zO := match st with
  | .double y :: .double x :: st => (match F x y with
    | some v => zgo pc L (v :: st) w
    | none => none)
  | _ => none
def zji (pc : Nat) (L : zLoc) (w : zW) (st : List Value) (F : Int64 → Int32 → Value) : zO := match st with
  | .int y :: .long x :: st => zgo pc L (F x y :: st) w
  | _ => none
def zun (pc : Nat) (L : zLoc) (w : zW) (st : List Value) (F : Value → Option Value) : zO := match st with
  | v :: st => (match F v with
    | some u => zgo pc L (u :: st) w
    | none => none)
  | _ => none
/-- no NaN -/
def znf (x : UInt32) (v : Value) : Option Value := if x &&& 0x7fffffff ≤ 0x7f800000 then some v else none
def znd (x : UInt64) (v : Value) : Option Value := if x &&& 0x7fffffffffffffff ≤ 0x7ff0000000000000 then some v else none
def zlen1 : Instr → Nat
  | .aload _ | .iload _ | .lload _ | .fload _ | .dload _ | .istore _ | .lstore _ | .fstore _ | .dstore _ | .astore _ | .bipush _ | .ldc _ | .newarray _ => 2
  | .sipush _ | .ldc_w _ | .ldc2_w _ | .iinc _ _ | .goto _ | .ifCond _ _ | .if_icmp _ _ | .getfield _ | .putfield _ | .invokevirtual _ | .invokestatic _ | .invokespecial _ | .new _ | .anewarray _ => 3
  | _ => 1
def zlenOk (i : Instr) (len : Nat) : Bool := match i with
  | .tableswitch _ _ _ _ => true
  | .lookupswitch _ _ => true
  | i => len == zlen1 i
def zjump (t : Option Nat) (L : zLoc) (st : List Value) (w : zW) : zO := match t with
  | some t => zjp t L st w
  | none => none
def zcallV (M : zM) (own idx pc : Nat) (L : zLoc) (st : List Value) (w : zW) : zO := match zlk own idx with
  | some (k, _) => (match zMeths[k]? with
    | some (_, (ow, np, kind, rt)) => (match zpop np st [] with
      | some (As, .ref a :: rest) => if (kind = 1 ∨ kind = 3) ∧ rest.length ≤ 4 then zcls ow (w.2 a) (zback (M k (.ref a :: As) w) rt pc L rest) else none
      | _ => none)
    | none => none)
  | none => none
def znat (k pc : Nat) (L : zLoc) (st : List Value) (w : zW) : zO := match st with
  | .int n :: .int dp :: .ref a1 :: .int sp :: .ref a0 :: rest => if k = 1000 ∧ rest.length ≤ 4 then zcpy (w.2 a0) (w.2 a1) sp dp n (fun c => zgo (pc + 3) L rest (zset w a1 c)) else none
  | .float b :: rest => if k = 1001 ∧ rest.length ≤ 4 then zgo (pc + 3) L (.int b.toInt32 :: rest) w else (if k = 1005 ∧ rest.length ≤ 4 ∧ b &&& 0x7fffffff ≤ 0x7f800000 then zgo (pc + 3) L (.float (b &&& 0x7fffffff) :: rest) w else none)
  | .int b :: rest => if k = 1002 ∧ rest.length ≤ 4 ∧ vn_sni2f b = false then zgo (pc + 3) L (.float b.toUInt32 :: rest) w else none
  | .double b :: rest => if k = 1003 ∧ rest.length ≤ 4 then zgo (pc + 3) L (.long b.toInt64 :: rest) w else none
  | _ => none
def zcallS (M : zM) (own idx pc : Nat) (L : zLoc) (st : List Value) (w : zW) : zO := match zlk own idx with
  | some (k, _) => (match zMeths[k]? with
    | some (_, (_, np, kind, rt)) => (match zpop np st [] with
      | some (As, rest) => if kind = 0 ∧ rest.length ≤ 4 then zback (M k As w) rt pc L rest else none
      | none => none)
    | none => znat k pc L st w)
  | none => none
def zcallI (M : zM) (own idx pc : Nat) (L : zLoc) (st : List Value) (w : zW) : zO := match zlk own idx with
  | some (k, _) => (match zMeths[k]? with
    | some (_, (_, np, kind, rt)) => (match zpop np st [] with
      | some (As, .ref a :: rest) => if kind = 2 ∧ rest.length ≤ 4 then zback (M k (.ref a :: As) w) rt pc L rest else none
      | _ => none)
    | none => (match st with
      | .ref _ :: rest => if k = 1004 ∧ rest.length ≤ 4 then zgo (pc + 3) L rest w else none
      | _ => none))
  | none => none
def zatag (t : ArrayType) (n : Nat) : Option (Nat × zC) := match t with
  | .int => some (n, .inl (0, n, .inl (fun _ => 0)))
  | .long => some (n, .inl (1, n, .inr (.inl (fun _ => 0))))
  | .float => some (n, .inl (2, n, .inr (.inr (.inl (fun _ => 0)))))
  | .byte => some (n, .inl (3, n, .inl (fun _ => 0)))
  | _ => none
def zins (M : zM) (own rt : Nat) (i : Instr) (pc : Nat) (L : zLoc) (st : List Value) (w : zW) : zO := match i with
  | .aload_n k => zlod L k.val (pc + 1) 4 st w
  | .aload k => zlod L k (pc + 2) 4 st w
  | .iload_n k => zlod L k.val (pc + 1) 0 st w
  | .iload k => zlod L k (pc + 2) 0 st w
  | .lload_n k => zlod L k.val (pc + 1) 1 st w
  | .lload k => zlod L k (pc + 2) 1 st w
  | .fload_n k => zlod L k.val (pc + 1) 2 st w
  | .fload k => zlod L k (pc + 2) 2 st w
  | .dload_n k => zlod L k.val (pc + 1) 3 st w
  | .dload k => zlod L k (pc + 2) 3 st w
  | .istore_n k => zsto L k.val (pc + 1) 0 st w
  | .istore k => zsto L k (pc + 2) 0 st w
  | .lstore_n k => zsto L k.val (pc + 1) 1 st w
  | .lstore k => zsto L k (pc + 2) 1 st w
  | .fstore_n k => zsto L k.val (pc + 1) 2 st w
  | .fstore k => zsto L k (pc + 2) 2 st w
  | .dstore_n k => zsto L k.val (pc + 1) 3 st w
  | .dstore k => zsto L k (pc + 2) 3 st w
  | .astore_n k => zsto L k.val (pc + 1) 4 st w
  | .astore k => zsto L k (pc + 2) 4 st w
  | .iinc k n => (match zld L k with
    | some (.int x) => (match zst1 L k (.int (x + zI n)) with
      | some L1 => zgo (pc + 3) L1 st w
      | none => none)
    | _ => none)
  | .iconst n => zgo (pc + 1) L (.int (zI n) :: st) w
  | .bipush n => if -128 ≤ n ∧ n < 128 then zgo (pc + 2) L (.int (zI n) :: st) w else none
  | .sipush n => if -32768 ≤ n ∧ n < 32768 then zgo (pc + 3) L (.int (zI n) :: st) w else none
  | .lconst n => zgo (pc + 1) L (.long (zL n.val) :: st) w
  | .fconst n => (match n with
    | 0 => zgo (pc + 1) L (.float FP.fconst0 :: st) w
    | 1 => zgo (pc + 1) L (.float FP.fconst1 :: st) w
    | 2 => zgo (pc + 1) L (.float FP.fconst2 :: st) w)
  | .dconst n => (match n with
    | 0 => zgo (pc + 1) L (.double FP.dconst0 :: st) w
    | 1 => zgo (pc + 1) L (.double FP.dconst1 :: st) w)
  | .ldc k => (match zcon own k with
    | some (.int v) => zgo (pc + 2) L (.int v :: st) w
    | some (.float v) => zgo (pc + 2) L (.float v :: st) w
    | _ => none)
  | .ldc_w k => (match zcon own k with
    | some (.int v) => zgo (pc + 3) L (.int v :: st) w
    | some (.float v) => zgo (pc + 3) L (.float v :: st) w
    | _ => none)
  | .ldc2_w k => (match zcon own k with
    | some (.long v) => zgo (pc + 3) L (.long v :: st) w
    | some (.double v) => zgo (pc + 3) L (.double v :: st) w
    | _ => none)
  | .iadd => zii (pc + 1) L w st (fun x y => some (.int (x + y)))
  | .isub => zii (pc + 1) L w st (fun x y => some (.int (x - y)))
  | .imul => zii (pc + 1) L w st (fun x y => some (.int (x * y)))
  | .idiv => zii (pc + 1) L w st (fun x y => if y = 0 then none else some (.int (x / y)))
  | .irem => zii (pc + 1) L w st (fun x y => if y = 0 then none else some (.int (x - x / y * y)))
  | .iand => zii (pc + 1) L w st (fun x y => some (.int (x &&& y)))
  | .ior => zii (pc + 1) L w st (fun x y => some (.int (x ||| y)))
  | .ishl => zii (pc + 1) L w st (fun x y => some (.int (x <<< (y &&& 31))))
  | .ineg => zun (pc + 1) L w st (fun v => match v with
    | .int x => some (.int (-x))
    | _ => none)
  | .lmul => zjj (pc + 1) L w st (fun x y => some (.long (x * y)))
  | .ldiv => zjj (pc + 1) L w st (fun x y => if y = 0 then none else some (.long (x / y)))
  | .lrem => zjj (pc + 1) L w st (fun x y => if y = 0 then none else some (.long (x - x / y * y)))
  | .land => zjj (pc + 1) L w st (fun x y => some (.long (x &&& y)))
  | .lor => zjj (pc + 1) L w st (fun x y => some (.long (x ||| y)))
  | .lcmp => zjj (pc + 1) L w st (fun x y => some (.int (lg_cmp x y)))
  | .lshl => zji (pc + 1) L w st (fun x y => .long (x <<< (y.toInt64 &&& 63)))
  | .lshr => zji (pc + 1) L w st (fun x y => .long (x >>> (y.toInt64 &&& 63)))
  | .lushr => zji (pc + 1) L w st (fun x y => .long (x.toUInt64 >>> (y.toInt64.toUInt64 &&& Int64.toUInt64 63)).toInt64)
  | .fadd => zff (pc + 1) L w st (fun x y => znf (FP.fadd x y) (.float (FP.fadd x y)))
  | .fsub => zff (pc + 1) L w st (fun x y => znf (FP.fsub x y) (.float (FP.fsub x y)))
  | .fmul => zff (pc + 1) L w st (fun x y => znf (FP.fmul x y) (.float (FP.fmul x y)))
  | .fdiv => zff (pc + 1) L w st (fun x y => znf (FP.fdiv x y) (.float (FP.fdiv x y)))
  | .fcmp op => zff (pc + 1) L w st (fun x y => some (.int (Op.cmpValue (FP.fcmp x y) op)))
  | .dsub => zdd (pc + 1) L w st (fun x y => znd (FP.dsub x y) (.double (FP.dsub x y)))
  | .dmul => zdd (pc + 1) L w st (fun x y => znd (FP.dmul x y) (.double (FP.dmul x y)))
  | .ddiv => zdd (pc + 1) L w st (fun x y => znd (FP.ddiv x y) (.double (FP.ddiv x y)))
  | .dcmp op => zdd (pc + 1) L w st (fun x y => some (.int (Op.cmpValue (FP.dcmp x y) op)))
  | .i2l => zun (pc + 1) L w st (fun v => match v with
    | .int x => some (.long x.toInt64)
    | _ => none)
  | .l2i => zun (pc + 1) L w st (fun v => match v with
    | .long x => some (.int x.toInt32)
    | _ => none)
  | .i2b => zun (pc + 1) L w st (fun v => match v with
    | .int x => some (.int x.toInt8.toInt32)
    | _ => none)
  | .i2f => zun (pc + 1) L w st (fun v => match v with
    | .int x => some (.float (FP.i2f x))
    | _ => none)
  | .l2f => zun (pc + 1) L w st (fun v => match v with
    | .long x => some (.float (FP.l2f x))
    | _ => none)
  | .l2d => zun (pc + 1) L w st (fun v => match v with
    | .long x => some (.double (FP.l2d x))
    | _ => none)
  | .f2i => zun (pc + 1) L w st (fun v => match v with
    | .float x => some (.int (FP.f2i x))
    | _ => none)
  | .f2d => zun (pc + 1) L w st (fun v => match v with
    | .float x => znd (FP.f2d x) (.double (FP.f2d x))
    | _ => none)
  | .d2l => zun (pc + 1) L w st (fun v => match v with
    | .double x => some (.long (FP.d2l x))
    | _ => none)
  | .dup => (match st with
    | .int x :: st => zgo (pc + 1) L (.int x :: .int x :: st) w
    | .ref x :: st => zgo (pc + 1) L (.ref x :: .ref x :: st) w
    | _ => none)
  | .dup2 => (match st with
    | .int x :: .ref a :: st => zgo (pc + 1) L (.int x :: .ref a :: .int x :: .ref a :: st) w
    | _ => none)
  | .pop => (match st with
    | .int _ :: st => zgo (pc + 1) L st w
    | _ => none)
  | .ifCond c off => (match st with
    | .int x :: st => (match c with
      | .eq => zbr pc off (x = 0) inferInstance L st w
      | .ne => zbr pc off (¬ x = 0) inferInstance L st w
      | .lt => zbr pc off (x < 0) inferInstance L st w
      | .ge => zbr pc off (0 ≤ x) inferInstance L st w
      | .gt => zbr pc off (0 < x) inferInstance L st w
      | .le => zbr pc off (x ≤ 0) inferInstance L st w)
    | _ => none)
  | .if_icmp c off => (match st with
    | .int y :: .int x :: st => (match c with
      | .eq => zbr pc off (x = y) inferInstance L st w
      | .ne => zbr pc off (¬ x = y) inferInstance L st w
      | .lt => zbr pc off (x < y) inferInstance L st w
      | .ge => zbr pc off (y ≤ x) inferInstance L st w
      | .gt => zbr pc off (y < x) inferInstance L st w
      | .le => zbr pc off (x ≤ y) inferInstance L st w)
    | _ => none)
  | .goto off => zjump (ztg pc off) L st w
  | .tableswitch d lo hi offs => (match st with
    | .int x :: st => if x.toInt < lo ∨ hi < x.toInt then zjump (ztg pc d) L st w else (match offs[(x.toInt - lo).toNat]? with
      | some off => zjump (ztg pc off) L st w
      | none => none)
    | _ => none)
  | .lookupswitch d ps => (match st with
    | .int x :: st => if (ps.toList.zip (ps.toList.drop 1)).all (fun q => decide (q.1.1 < q.2.1)) = true then zjump (ztg pc (Op.lookupswitch.offset ps.toList d x.toInt)) L st w else none
    | _ => none)
  | .getfield idx => (match zfl own idx with
    | some (ci, k) => (match st with
      | .ref a :: st => zget ci k (w.2 a) (fun v => zgo (pc + 3) L (v :: st) w)
      | _ => none)
    | none => none)
  | .putfield idx => (match zfl own idx with
    | some (ci, k) => (match st with
      | v :: .ref a :: st => if fits (zTy ci k) v = true ∧ narrow (zTy ci k) v = v ∧ (zfin ci k = false ∨ (rt = 5 ∧ own = ci)) then zput ci k v (w.2 a) (fun c => zgo (pc + 3) L st (zset w a c)) else none
      | _ => none)
    | none => none)
  | .iaload => (match st with
    | .int i :: .ref a :: st => zil (w.2 a) 0 i (fun x => zgo (pc + 1) L (.int x :: st) w)
    | _ => none)
  | .baload => (match st with
    | .int i :: .ref a :: st => zil (w.2 a) 3 i (fun x => zgo (pc + 1) L (.int x :: st) w)
    | _ => none)
  | .laload => (match st with
    | .int i :: .ref a :: st => zll (w.2 a) i (fun x => zgo (pc + 1) L (.long x :: st) w)
    | _ => none)
  | .faload => (match st with
    | .int i :: .ref a :: st => zfll (w.2 a) i (fun x => zgo (pc + 1) L (.float x :: st) w)
    | _ => none)
  | .aaload => (match st with
    | .int i :: .ref a :: st => zal (w.2 a) i (fun x => zgo (pc + 1) L (.ref x :: st) w)
    | _ => none)
  | .iastore => (match st with
    | .int x :: .int i :: .ref a :: st => zis (w.2 a) 0 i x (fun c => zgo (pc + 1) L st (zset w a c))
    | _ => none)
  | .bastore => (match st with
    | .int x :: .int i :: .ref a :: st => zis (w.2 a) 3 i x.toInt8.toInt32 (fun c => zgo (pc + 1) L st (zset w a c))
    | _ => none)
  | .lastore => (match st with
    | .long x :: .int i :: .ref a :: st => zls (w.2 a) i x (fun c => zgo (pc + 1) L st (zset w a c))
    | _ => none)
  | .fastore => (match st with
    | .float x :: .int i :: .ref a :: st => zfs (w.2 a) i x (fun c => zgo (pc + 1) L st (zset w a c))
    | _ => none)
  | .aastore => (match st with
    | .ref x :: .int i :: .ref a :: st => zas (w.2 a) (w.2 x) i x (fun c => zgo (pc + 1) L st (zset w a c))
    | _ => none)
  | .arraylength => (match st with
    | .ref a :: st => zlen (w.2 a) (fun n => zgo (pc + 1) L (.int (zI n) :: st) w)
    | _ => none)
  | .newarray t => (match st with
    | .int n :: st => if 0 ≤ n.toInt ∧ n.toInt ≤ 10000 then (match zatag t n.toNatClampNeg with
      | some (k, c) => zgo (pc + 2) L (.ref w.1.1 :: st) (znew w k c)
      | none => none) else none
    | _ => none)
  | .anewarray idx => (match st with
    | .int n :: st => if 0 ≤ n.toInt ∧ n.toInt ≤ 10000 then (match zcl own idx with
      | some 3 => zgo (pc + 3) L (.ref w.1.1 :: st) (znew w n.toNatClampNeg (.inl (4, n.toNatClampNeg, .inr (.inr (.inr (.inr (fun _ => none)))))))
      | some 8 => zgo (pc + 3) L (.ref w.1.1 :: st) (znew w n.toNatClampNeg (.inl (5, n.toNatClampNeg, .inr (.inr (.inr (.inr (fun _ => none)))))))
      | _ => none) else none
    | _ => none)
  | .new idx => (match zcl own idx with
    | some ci => (match zNew[ci]? with
      | some fs => zgo (pc + 3) L (.ref w.1.1 :: st) (znew w fs.length (.inr (ci, fs)))
      | none => none)
    | none => none)
  | .invokevirtual idx => zcallV M own idx pc L st w
  | .invokestatic idx => zcallS M own idx pc L st w
  | .invokespecial idx => zcallI M own idx pc L st w
  | .ireturn => (match st with
    | [.int x] => if rt = 1 ∨ (rt = 2 ∧ (x = 0 ∨ x = 1)) then some (.inr (some (.int x), w)) else none
    | _ => none)
  | .lreturn => (match st with
    | [.long x] => if rt = 3 then some (.inr (some (.long x), w)) else none
    | _ => none)
  | .freturn => (match st with
    | [.float x] => if rt = 4 then some (.inr (some (.float x), w)) else none
    | _ => none)
  | .return_ => (match st with
    | [] => if rt = 0 ∨ rt = 5 then some (.inr (none, w)) else none
    | _ => none)
  | _ => none
def zstep (M : zM) (own rt : Nat) (code : ByteArray) (s : zS) : zO := match decode code s.1 with
  | .ok (i, len) => if zlenOk i len = true then zins M own rt i s.1 s.2.1 s.2.2.1 s.2.2.2 else none
  | .error _ => none
def zexec (M : zM) (own rt : Nat) (code : ByteArray) : Nat → zS → Option zA
  | 0, _ => none
  | n + 1, s => match zstep M own rt code s with
    | some (.inl (_, s')) => zexec M own rt code n s'
    | some (.inr r) => some r
    | none => none
theorem zexec_more {M : zM} {own rt : Nat} {code : ByteArray} : ∀ (n k : Nat) (s : zS) (r : zA), zexec M own rt code n s = some r → zexec M own rt code (n + k) s = some r := by
  intro n
  induction n with
  | zero => intro k s r h; simp [zexec] at h
  | succ n ih =>
    intro k s r h
    rw [show n + 1 + k = (n + k) + 1 by omega]
    simp only [zexec] at h ⊢
    split at h
    · exact ih k _ _ h
    · exact h
    · exact h
/-- the method's run from a state on: its answer and world, if it comes to one -/
noncomputable def zruns (M : zM) (own rt : Nat) (code : ByteArray) (s : zS) : Option zA :=
  @dite _ (∃ (r : zA) (n : Nat), zexec M own rt code n s = some r) (Classical.propDecidable _) (fun h => some h.choose) (fun _ => none)
theorem zruns_iff {M : zM} {own rt : Nat} {code : ByteArray} {s : zS} {r : zA} : zruns M own rt code s = some r ↔ ∃ n, zexec M own rt code n s = some r := by
  unfold zruns
  constructor
  · intro h
    split at h
    · rename_i hx
      obtain ⟨n, hn⟩ := hx.choose_spec
      rw [← Option.some.inj h]
      exact ⟨n, hn⟩
    · cases h
  · rintro ⟨n, hn⟩
    have hx : ∃ (r : zA) (n : Nat), zexec M own rt code n s = some r := ⟨r, n, hn⟩
    rw [dif_pos hx]
    obtain ⟨k, hk⟩ := hx.choose_spec
    have h1 := zexec_more n k s r hn
    have h2 := zexec_more k n s _ hk
    rw [Nat.add_comm] at h2
    rw [h1] at h2
    exact h2.symm
theorem zruns_step (M : zM) (own rt : Nat) (code : ByteArray) (s : zS) : zruns M own rt code s = (match zstep M own rt code s with
    | some (.inl (_, s')) => zruns M own rt code s'
    | some (.inr r) => some r
    | none => none) := by
  apply Option.ext
  intro r
  rw [zruns_iff]
  constructor
  · rintro ⟨n, hn⟩
    cases n with
    | zero => simp [zexec] at hn
    | succ n =>
      simp only [zexec] at hn
      revert hn
      generalize zstep M own rt code s = o
      intro hn
      match o, hn with
      | some (.inl (_, s')), hn => exact zruns_iff.mpr ⟨n, hn⟩
      | some (.inr r'), hn => exact hn
      | none, hn => cases hn
  · intro h
    split at h
    · rename_i h1
      obtain ⟨n, hn⟩ := zruns_iff.mp h
      exact ⟨n + 1, by simp only [zexec, h1]; exact hn⟩
    · rename_i h1
      exact ⟨1, by simp only [zexec, h1]; exact h⟩
    · cases h
def zarg1 : Value → zLoc
  | .int x => [some (.int x)]
  | .long x => [some (.long x), none]
  | .float x => [some (.float x)]
  | .double x => [some (.double x), none]
  | .ref x => [some (.ref x)]
  | .null => [none]
  | .retAddr _ => [none]
def zargs : List Value → zLoc
  | [] => []
  | v :: t => zarg1 v ++ zargs t
def zpad : Nat → zLoc → Option zLoc
  | 0, [] => some []
  | 0, _ :: _ => none
  | n + 1, [] => (zpad n []).map (none :: ·)
  | n + 1, x :: t => (zpad n t).map (x :: ·)
/-- a call of method k, its calls nested at most so deep -/
noncomputable def zcall : Nat → zM
  | 0, _, _, _ => none
  | d + 1, k, args, w => match zMeths[k]? with
    | some ((_, code, maxL, _), (own, _, _, rt)) => (match zpad maxL (zargs args) with
      | some L => zruns (zcall d) own rt code (0, L, [], w)
      | none => none)
    | none => none
