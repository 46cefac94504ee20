abbrev gl_0 : List Cond := u_ws RX0 TX0 2
abbrev gl_1 : List Cond := u_ws RX1 TX1 5
abbrev gl_2 : List Cond := u_ws RX2 TX2 11
abbrev gl_3 : List Cond := u_ws RX3 TX3 16
abbrev gl_4 : List Cond := u_ws RX4 TX4 4
abbrev gl_5 : List Cond := u_ws RX5 TX5 5
abbrev gl_6 : List Cond := u_ws RX6 TX6 9
abbrev gl_7 : List Cond := u_ws RX7 TX7 11
abbrev gl_8 : List Cond := u_ws RX8 TX8 13
abbrev gl_9 : List Cond := u_ws RX9 TX9 37
def gc_0 : List Cond := [Cond.selects RX3 yX3_empty yX3_empty, Cond.selects RX8 yX8_tapeInt yX8_tapeInt, Cond.selects RX6 yX6_readText yX6_readText, Cond.selects RX6 yX6_advance yX6_advance, Cond.selects RX6 yX6_endOf yX6_endOf, Cond.selects RX6 yX6_kindAt yX6_kindAt, Cond.selects RX3 yX3_become yX3_become, Cond.selects RX3 yX3_hasStrip yX3_hasStrip, Cond.selects RX3 yX3_sumOfFarm yX3_sumOfFarm, Cond.selects RX3 yX3_stripsOfFarm yX3_stripsOfFarm, Cond.selects RX3 yX3_areStrips yX3_areStrips, Cond.selects RX3 yX3_allStrips yX3_allStrips, Cond.selects RX3 yX3_whyNot yX3_whyNot, Cond.selects RX3 yX3_target yX3_target, Cond.selects RX3 yX3_sum yX3_sum, Cond.selects RX3 yX3_hangsOver yX3_hangsOver, Cond.selects RX8 yX8_refusedSearch yX8_refusedSearch, Cond.selects RX0 yX0_fewest yX0_fewest, Cond.selects RX0 yX0_look yX0_look, Cond.selects RX0 yX0_leastBits yX0_leastBits]
def gc_1 : List Cond := [Cond.selects RX8 yX8_refusedStubble yX8_refusedStubble, Cond.selects RX8 yX8_refusedMeeting yX8_refusedMeeting, Cond.selects RX4 yX4_renew yX4_renew, Cond.selects RX9 yX9_next yX9_next, Cond.selects RX9 yX9_see yX9_see, Cond.selects RX9 yX9_isStrip yX9_isStrip, Cond.selects RX9 yX9_ofFarm yX9_ofFarm, Cond.selects RX9 yX9_stripsOf yX9_stripsOf, Cond.selects RX9 yX9_isSet yX9_isSet, Cond.selects RX9 yX9_refuses yX9_refuses, Cond.selects RX9 yX9_told yX9_told, Cond.selects RX9 yX9_haltsFor yX9_haltsFor, Cond.selects RX9 yX9_laysStubble yX9_laysStubble, Cond.selects RX9 yX9_sumOf yX9_sumOf, Cond.initialized RX8, Cond.initialized RX6, Cond.initialized RX3, Cond.initialized RJ7, Cond.initialized RX7, Cond.initialized RX2]
def gc_2 : List Cond := [Cond.initialized RX5, Cond.initialized RX1, Cond.initialized RX0, Cond.initialized RX4, Cond.initialized RX9, Cond.initialized "java/lang/Math", Cond.initialized "java/lang/System", Cond.methodLink RX8 1 objectInit, Cond.instanceMethod objectInit, Cond.classLink RX8 17 RX6, Cond.instantiable RX6 9, Cond.instanceMethod yX6_init, Cond.methodLink RX6 3 objectInit, Cond.classLink RX6 9 RX3, Cond.instantiable RX3 16, Cond.instanceMethod yX3_init, Cond.methodLink RX3 3 objectInit, Cond.methodLink RX3 30 yX3_empty, Cond.instanceMethod yX3_empty, Cond.methodLink RX3 64 yJ7_fill_53178]
def gc_3 : List Cond := [Cond.static yJ7_fill_53178, Cond.fieldLink RX3 33 "RopeMoon$Plain" "strips" "I", Cond.fieldLink RX3 37 "RopeMoon$Plain" "lines" "I", Cond.fieldLink RX3 40 "RopeMoon$Plain" "minute" "I", Cond.fieldLink RX3 43 "RopeMoon$Plain" "at" "I", Cond.fieldLink RX3 46 "RopeMoon$Plain" "rope" "I", Cond.fieldLink RX3 49 "RopeMoon$Plain" "power" "I", Cond.fieldLink RX3 52 "RopeMoon$Plain" "fade" "I", Cond.fieldLink RX3 55 "RopeMoon$Plain" "oil" "I", Cond.fieldLink RX3 58 "RopeMoon$Plain" "moths" "I", Cond.fieldLink RX3 61 "RopeMoon$Plain" "crossing" "I", Cond.fieldLink RX3 9 "RopeMoon$Plain" "crops" "[I", Cond.fieldLink RX3 15 "RopeMoon$Plain" "reapers" "[I", Cond.fieldLink RX3 18 "RopeMoon$Plain" "trees" "[I", Cond.fieldLink RX3 21 "RopeMoon$Plain" "farms" "[I", Cond.fieldLink RX3 24 "RopeMoon$Plain" "reaped" "[I", Cond.fieldLink RX3 27 "RopeMoon$Plain" "bids" "[I", Cond.arrayClass .byte, Cond.arrayClass .int, Cond.fieldLink RX6 12 "RopeMoon$TextReader" "told" "LRopeMoon$Plain;"]
def gc_4 : List Cond := [Cond.fieldLink RX6 18 "RopeMoon$TextReader" "faultKind" "I", Cond.fieldLink RX6 22 "RopeMoon$TextReader" "faultPlace" "I", Cond.fieldLink RX6 25 "RopeMoon$TextReader" "text" "[B", Cond.fieldLink RX6 29 "RopeMoon$TextReader" "length" "I", Cond.fieldLink RX6 32 "RopeMoon$TextReader" "start" "I", Cond.fieldLink RX6 35 "RopeMoon$TextReader" "next" "I", Cond.fieldLink RX6 38 "RopeMoon$TextReader" "token" "I", Cond.fieldLink RX6 41 "RopeMoon$TextReader" "value" "I", Cond.classLink RX8 24 RX3, Cond.classLink RX8 42 RX4, Cond.classLink RX8 48 RX7, Cond.instantiable RX7 11, Cond.instanceMethod yX7_init, Cond.methodLink RX7 3 objectInit, Cond.fieldLink RX7 11 "RopeMoon$Walks" "hangs" "[J", Cond.fieldLink RX7 15 "RopeMoon$Walks" "places" "[I", Cond.fieldLink RX7 19 "RopeMoon$Walks" "ways" "[I", Cond.fieldLink RX7 22 "RopeMoon$Walks" "moves" "[I", Cond.fieldLink RX7 25 "RopeMoon$Walks" "twin" "[Z", Cond.fieldLink RX7 29 "RopeMoon$Walks" "slots" "[I"]
def gc_5 : List Cond := [Cond.fieldLink RX7 32 "RopeMoon$Walks" "starts" "[I", Cond.fieldLink RX7 35 "RopeMoon$Walks" "strips" "I", Cond.fieldLink RX7 39 "RopeMoon$Walks" "from" "I", Cond.fieldLink RX7 42 "RopeMoon$Walks" "laid" "I", Cond.fieldLink RX7 45 "RopeMoon$Walks" "size" "I", Cond.arrayClass .boolean, Cond.arrayClass .long, Cond.classLink RX8 55 RX2, Cond.instantiable RX2 11, Cond.instanceMethod yX2_init, Cond.methodLink RX2 3 objectInit, Cond.classLink RX2 9 RX3, Cond.fieldLink RX2 12 "RopeMoon$Harvest" "over" "LRopeMoon$Plain;", Cond.fieldLink RX2 18 "RopeMoon$Harvest" "goal" "I", Cond.fieldLink RX2 22 "RopeMoon$Harvest" "weights" "[I", Cond.fieldLink RX2 26 "RopeMoon$Harvest" "caps" "[I", Cond.fieldLink RX2 29 "RopeMoon$Harvest" "firstWorths" "[I", Cond.fieldLink RX2 32 "RopeMoon$Harvest" "farmGot" "[I", Cond.fieldLink RX2 35 "RopeMoon$Harvest" "hungOver" "[I", Cond.fieldLink RX2 38 "RopeMoon$Harvest" "hungTimes" "[I"]
def gc_6 : List Cond := [Cond.fieldLink RX2 41 "RopeMoon$Harvest" "hung" "I", Cond.fieldLink RX2 44 "RopeMoon$Harvest" "bestScore" "I", Cond.fieldLink RX2 47 "RopeMoon$Harvest" "bestState" "I", Cond.classLink RX8 62 RX5, Cond.instantiable RX5 5, Cond.instanceMethod yX5_init, Cond.methodLink RX5 3 objectInit, Cond.fieldLink RX5 9 "RopeMoon$Shifts" "fewerCaps" "[I", Cond.fieldLink RX5 15 "RopeMoon$Shifts" "moreCaps" "[I", Cond.fieldLink RX5 18 "RopeMoon$Shifts" "without" "[I", Cond.fieldLink RX5 21 "RopeMoon$Shifts" "with" "[I", Cond.fieldLink RX5 24 "RopeMoon$Shifts" "mostSheaves" "[I", Cond.classLink RX8 69 RX1, Cond.instantiable RX1 5, Cond.instanceMethod yX1_init, Cond.methodLink RX1 3 objectInit, Cond.fieldLink RX1 11 "RopeMoon$Ends" "lowCrops" "[J", Cond.fieldLink RX1 15 "RopeMoon$Ends" "highCrops" "[J", Cond.fieldLink RX1 18 "RopeMoon$Ends" "unlike" "I", Cond.fieldLink RX1 22 "RopeMoon$Ends" "explained" "I"]
def gc_7 : List Cond := [Cond.fieldLink RX1 25 "RopeMoon$Ends" "sureStrips" "I", Cond.classLink RX8 76 RX0, Cond.instantiable RX0 2, Cond.instanceMethod yX0_init, Cond.methodLink RX0 3 objectInit, Cond.fieldLink RX0 9 "RopeMoon$Cover" "litFrom" "[I", Cond.fieldLink RX0 15 "RopeMoon$Cover" "lightersOf" "[I", Cond.instantiable RX4 4, Cond.instanceMethod yX4_init, Cond.methodLink RX4 3 objectInit, Cond.fieldLink RX4 9 "RopeMoon$Row" "missing" "Z", Cond.fieldLink RX4 15 "RopeMoon$Row" "sort" "I", Cond.fieldLink RX4 19 "RopeMoon$Row" "size" "I", Cond.fieldLink RX4 22 "RopeMoon$Row" "values" "[J", Cond.fieldLink RX8 9 "RopeMoon" "tape" "[B", Cond.fieldLink RX8 13 "RopeMoon" "tapeSize" "I", Cond.fieldLink RX8 20 "RopeMoon" "reader" "LRopeMoon$TextReader;", Cond.fieldLink RX8 27 "RopeMoon" "field" "LRopeMoon$Plain;", Cond.fieldLink RX8 31 "RopeMoon" "trial" "LRopeMoon$Plain;", Cond.fieldLink RX8 34 "RopeMoon" "images" "[LRopeMoon$Plain;"]
def gc_8 : List Cond := [Cond.fieldLink RX8 38 "RopeMoon" "imageMade" "[Z", Cond.fieldLink RX8 44 "RopeMoon" "rows" "[LRopeMoon$Row;", Cond.fieldLink RX8 51 "RopeMoon" "walks" "LRopeMoon$Walks;", Cond.fieldLink RX8 58 "RopeMoon" "harvest" "LRopeMoon$Harvest;", Cond.fieldLink RX8 65 "RopeMoon" "shifts" "LRopeMoon$Shifts;", Cond.fieldLink RX8 72 "RopeMoon" "endings" "LRopeMoon$Ends;", Cond.fieldLink RX8 79 "RopeMoon" "cover" "LRopeMoon$Cover;", Cond.methodLink RX8 84 yX8_tapeInt, Cond.instanceMethod yX8_tapeInt, Cond.instanceMethod yX6_readText, Cond.methodLink RX6 44 Lib.Math.min.name, Cond.static Lib.Math.min.name, Cond.methodLink RX6 50 Lib.Math.max.name, Cond.static Lib.Math.max.name, Cond.methodLink RX6 53 arraycopyName, Cond.static arraycopyName, Cond.native arraycopyName, Cond.methodLink RX6 62 yX6_advance, Cond.instanceMethod yX6_advance, Cond.methodLink RX6 163 yX6_endOf]
def gc_9 : List Cond := [Cond.instanceMethod yX6_endOf, Cond.methodLink RX6 166 yX6_kindAt, Cond.instanceMethod yX6_kindAt, Cond.static yX8_isFarm, Cond.instanceMethod yX3_become, Cond.methodLink RX3 70 arraycopyName, Cond.instanceMethod yX3_hasStrip, Cond.methodLink RX8 135 yX8_isFarm, Cond.instanceMethod yX3_sumOfFarm, Cond.instanceMethod yX3_stripsOfFarm, Cond.instanceMethod yX3_areStrips, Cond.methodLink RX3 76 yX3_allStrips, Cond.instanceMethod yX3_allStrips, Cond.instanceMethod yX3_whyNot, Cond.methodLink RX3 112 yX3_target, Cond.instanceMethod yX3_target, Cond.constantLong RX3 106 (2), Cond.methodLink RX3 108 yX3_hasStrip, Cond.methodLink RX8 182 yX8_isRow, Cond.static yX8_isRow]
def gc_10 : List Cond := [Cond.instanceMethod yX3_sum, Cond.instanceMethod yX3_hangsOver, Cond.methodLink RX8 211 Lib.Math.min.name, Cond.methodLink RX8 225 yX8_isAskable, Cond.static yX8_isAskable, Cond.methodLink RX8 229 yX8_refusedSearch, Cond.instanceMethod yX8_refusedSearch, Cond.instanceMethod yX0_fewest, Cond.methodLink RX0 18 yX0_look, Cond.instanceMethod yX0_look, Cond.methodLink RX0 40 yJ7_fill_53178, Cond.methodLink RX0 32 yX0_canLight, Cond.static yX0_canLight, Cond.methodLink RX0 36 yX0_leastBits, Cond.instanceMethod yX0_leastBits, Cond.methodLink RX8 306 yX8_refusedStubble, Cond.instanceMethod yX8_refusedStubble, Cond.methodLink RX8 319 yX8_refusedMeeting, Cond.instanceMethod yX8_refusedMeeting, Cond.instanceMethod yX4_renew]
def gc_11 : List Cond := [Cond.methodLink RX4 26 Lib.Math.min.name, Cond.methodLink RX4 32 Lib.Math.max.name, Cond.methodLink RX4 35 yJ7_fill_d0a16, Cond.static yJ7_fill_d0a16, Cond.constantLong RX8 330 (-2), Cond.constantLong RX8 332 (-6), Cond.methodLink RX9 7 objectInit, Cond.methodLink RX9 61 yX9_plainIn, Cond.static yX9_plainIn, Cond.methodLink RX9 65 yX9_lampIn, Cond.static yX9_lampIn, Cond.fieldLink RX9 1 "RopeMoonModel" "thrown" "I", Cond.fieldLink RX9 13 "RopeMoonModel" "all" "[I", Cond.fieldLink RX9 17 "RopeMoonModel" "hasImage" "[Z", Cond.fieldLink RX9 21 "RopeMoonModel" "tape" "[I", Cond.fieldLink RX9 24 "RopeMoonModel" "fresh" "[I", Cond.fieldLink RX9 68 "RopeMoonModel" "taped" "I", Cond.fieldLink RX9 86 "RopeMoonModel" "at" "I", Cond.fieldLink RX9 89 "RopeMoonModel" "behind" "I", Cond.fieldLink RX9 71 "RopeMoonModel" "size" "I"]
def gc_12 : List Cond := [Cond.fieldLink RX9 96 "RopeMoonModel" "kind" "I", Cond.fieldLink RX9 112 "RopeMoonModel" "wrong" "I", Cond.fieldLink RX9 155 "RopeMoonModel" "faultKind" "I", Cond.fieldLink RX9 27 "RopeMoonModel" "faultPlace" "I", Cond.fieldLink RX9 30 "RopeMoonModel" "gotten" "[I", Cond.fieldLink RX9 33 "RopeMoonModel" "kept" "[I", Cond.fieldLink RX9 36 "RopeMoonModel" "moves" "[I", Cond.fieldLink RX9 39 "RopeMoonModel" "bestMoves" "[I", Cond.fieldLink RX9 42 "RopeMoonModel" "bestGotten" "[I", Cond.fieldLink RX9 45 "RopeMoonModel" "crops" "[I", Cond.fieldLink RX9 48 "RopeMoonModel" "litFrom" "[I", Cond.fieldLink RX9 51 "RopeMoonModel" "rowSort" "[I", Cond.fieldLink RX9 54 "RopeMoonModel" "rowMany" "[I", Cond.fieldLink RX9 57 "RopeMoonModel" "numbers" "[J", Cond.methodLink RX9 128 yX9_within, Cond.static yX9_within, Cond.methodLink RX9 121 yX9_next, Cond.instanceMethod yX9_next, Cond.methodLink RX9 92 yX9_see, Cond.instanceMethod yX9_see]
def gc_13 : List Cond := [Cond.methodLink RX9 172 yX9_isStrip, Cond.instanceMethod yX9_isStrip, Cond.constantLong RX9 175 (5), Cond.constantLong RX9 180 (3), Cond.methodLink RX9 182 yX9_ofFarm, Cond.instanceMethod yX9_ofFarm, Cond.methodLink RX9 185 yX9_stripsOf, Cond.instanceMethod yX9_stripsOf, Cond.methodLink RX9 191 yX9_isSet, Cond.instanceMethod yX9_isSet, Cond.constantLong RX9 194 (30), Cond.methodLink RX9 202 yX9_refuses, Cond.instanceMethod yX9_refuses, Cond.constantLong RX9 196 (2), Cond.methodLink RX9 198 yX9_then, Cond.static yX9_then, Cond.constantLong RX9 225 (99), Cond.constantLong RX9 231 (60), Cond.methodLink RX9 272 yX9_told, Cond.instanceMethod yX9_told]
def gc_14 : List Cond := [Cond.constantLong RX9 263 (10), Cond.constantLong RX9 265 (17), Cond.constantLong RX9 267 (8), Cond.constantLong RX9 276 (6), Cond.constantLong RX9 278 (9999), Cond.methodLink RX9 294 yX9_haltsFor, Cond.instanceMethod yX9_haltsFor, Cond.methodLink RX9 310 yX9_laysStubble, Cond.instanceMethod yX9_laysStubble, Cond.constantLong RX9 323 (40), Cond.constantLong RX9 325 (-2), Cond.constantLong RX9 327 (-6), Cond.methodLink RX9 335 yX9_sumOf, Cond.instanceMethod yX9_sumOf]
def gc_15 : List Cond := [Cond.code objectInit ⟨#[0xb1]⟩ 1 none, Cond.code yX6_init cX6_init 1 none, Cond.code yX3_init cX3_init 1 none, Cond.code yX3_empty cX3_empty 1 none, Cond.code yJ7_fill_53178 cJ7_fill_53178 4 none, Cond.code yX7_init cX7_init 1 none, Cond.code yX2_init cX2_init 1 none, Cond.code yX5_init cX5_init 1 none, Cond.code yX1_init cX1_init 1 none, Cond.code yX0_init cX0_init 1 none, Cond.code yX4_init cX4_init 1 none, Cond.code yX8_tapeInt cX8_tapeInt 3 none]
def gc_16 : List Cond := [Cond.code yX6_readText cX6_readText 4 (some .int), Cond.code Lib.Math.min.name Lib.Math.min.code 2 (some .int), Cond.code Lib.Math.max.name Lib.Math.max.code 2 (some .int), Cond.code yX6_advance cX6_advance 1 none, Cond.code yX6_endOf cX6_endOf 4 (some .int), Cond.code yX6_kindAt cX6_kindAt 3 (some .int), Cond.code yX8_isFarm cX8_isFarm 1 (some .boolean), Cond.code yX3_become cX3_become 2 none, Cond.code yX3_hasStrip cX3_hasStrip 2 (some .boolean), Cond.code yX3_sumOfFarm cX3_sumOfFarm 5 (some .int), Cond.code yX3_stripsOfFarm cX3_stripsOfFarm 4 (some .int), Cond.code yX3_areStrips cX3_areStrips 2 (some .boolean)]
def gc_17 : List Cond := [Cond.code yX3_allStrips cX3_allStrips 1 (some .int), Cond.code yX3_whyNot cX3_whyNot 3 (some .int), Cond.code yX3_target cX3_target 5 (some .int), Cond.code yX8_isRow cX8_isRow 1 (some .boolean), Cond.code yX3_sum cX3_sum 4 (some .int), Cond.code yX3_hangsOver cX3_hangsOver 1 (some .int), Cond.code yX8_isAskable cX8_isAskable 2 (some .boolean), Cond.code yX8_refusedSearch cX8_refusedSearch 4 (some .int), Cond.code yX0_fewest cX0_fewest 5 (some .int), Cond.code yX0_look cX0_look 4 none, Cond.code yX0_canLight cX0_canLight 8 (some .boolean), Cond.code yX0_leastBits cX0_leastBits 8 (some .int)]
def gc_18 : List Cond := [Cond.code yX8_refusedStubble cX8_refusedStubble 3 (some .int), Cond.code yX8_refusedMeeting cX8_refusedMeeting 5 (some .int), Cond.code yX4_renew cX4_renew 3 none, Cond.code yJ7_fill_d0a16 cJ7_fill_d0a16 5 none, Cond.code yX9_plainIn cX9_plainIn 2 none, Cond.code yX9_lampIn cX9_lampIn 1 none, Cond.code yX9_within cX9_within 6 (some .boolean), Cond.code yX9_next cX9_next 1 none, Cond.code yX9_see cX9_see 2 (some .int), Cond.code yX9_isStrip cX9_isStrip 2 (some .boolean), Cond.code yX9_ofFarm cX9_ofFarm 5 (some .int), Cond.code yX9_stripsOf cX9_stripsOf 4 (some .int)]
def gc_19 : List Cond := [Cond.code yX9_isSet cX9_isSet 2 (some .boolean), Cond.code yX9_refuses cX9_refuses 3 (some .int), Cond.code yX9_then cX9_then 3 (some .int), Cond.code yX9_told cX9_told 6 (some .int), Cond.code yX9_haltsFor cX9_haltsFor 6 (some .int), Cond.code yX9_laysStubble cX9_laysStubble 3 (some .int), Cond.code yX9_sumOf cX9_sumOf 4 (some .int)]
def gw_T : List Cond := gl_0 ++ (gl_1 ++ (gl_2 ++ (gl_3 ++ (gl_4 ++ (gl_5 ++ (gl_6 ++ (gl_7 ++ (gl_8 ++ (gl_9 ++ (gc_0 ++ (gc_1 ++ (gc_2 ++ (gc_3 ++ (gc_4 ++ (gc_5 ++ (gc_6 ++ (gc_7 ++ (gc_8 ++ (gc_9 ++ (gc_10 ++ (gc_11 ++ (gc_12 ++ (gc_13 ++ (gc_14 ++ (gc_15 ++ (gc_16 ++ (gc_17 ++ (gc_18 ++ (gc_19)))))))))))))))))))))))))))))
theorem in_gl_0 : ∀ w ∈ gl_0, w ∈ gw_T := fun _ h => List.mem_append_left _ h
theorem in_gl_1 : ∀ w ∈ gl_1, w ∈ gw_T := fun _ h => List.mem_append_right _ (List.mem_append_left _ h)
theorem in_gl_2 : ∀ w ∈ gl_2, w ∈ gw_T := fun _ h => List.mem_append_right _ (List.mem_append_right _ (List.mem_append_left _ h))
theorem in_gl_3 : ∀ w ∈ gl_3, w ∈ gw_T := fun _ h => List.mem_append_right _ (List.mem_append_right _ (List.mem_append_right _ (List.mem_append_left _ h)))
theorem in_gl_4 : ∀ w ∈ gl_4, w ∈ gw_T := fun _ h => List.mem_append_right _ (List.mem_append_right _ (List.mem_append_right _ (List.mem_append_right _ (List.mem_append_left _ h))))
theorem in_gl_5 : ∀ w ∈ gl_5, w ∈ gw_T := fun _ h => List.mem_append_right _ (List.mem_append_right _ (List.mem_append_right _ (List.mem_append_right _ (List.mem_append_right _ (List.mem_append_left _ h)))))
theorem in_gl_6 : ∀ w ∈ gl_6, w ∈ gw_T := fun _ h => List.mem_append_right _ (List.mem_append_right _ (List.mem_append_right _ (List.mem_append_right _ (List.mem_append_right _ (List.mem_append_right _ (List.mem_append_left _ h))))))
theorem in_gl_7 : ∀ w ∈ gl_7, w ∈ gw_T := fun _ h => List.mem_append_right _ (List.mem_append_right _ (List.mem_append_right _ (List.mem_append_right _ (List.mem_append_right _ (List.mem_append_right _ (List.mem_append_right _ (List.mem_append_left _ h)))))))
theorem in_gl_8 : ∀ w ∈ gl_8, w ∈ gw_T := fun _ h => List.mem_append_right _ (List.mem_append_right _ (List.mem_append_right _ (List.mem_append_right _ (List.mem_append_right _ (List.mem_append_right _ (List.mem_append_right _ (List.mem_append_right _ (List.mem_append_left _ h))))))))
theorem in_gl_9 : ∀ w ∈ gl_9, w ∈ gw_T := fun _ h => List.mem_append_right _ (List.mem_append_right _ (List.mem_append_right _ (List.mem_append_right _ (List.mem_append_right _ (List.mem_append_right _ (List.mem_append_right _ (List.mem_append_right _ (List.mem_append_right _ (List.mem_append_left _ h)))))))))
theorem in_gc_0 : ∀ w ∈ gc_0, w ∈ gw_T := fun _ h => List.mem_append_right _ (List.mem_append_right _ (List.mem_append_right _ (List.mem_append_right _ (List.mem_append_right _ (List.mem_append_right _ (List.mem_append_right _ (List.mem_append_right _ (List.mem_append_right _ (List.mem_append_right _ (List.mem_append_left _ h))))))))))
theorem in_gc_1 : ∀ w ∈ gc_1, w ∈ gw_T := fun _ h => List.mem_append_right _ (List.mem_append_right _ (List.mem_append_right _ (List.mem_append_right _ (List.mem_append_right _ (List.mem_append_right _ (List.mem_append_right _ (List.mem_append_right _ (List.mem_append_right _ (List.mem_append_right _ (List.mem_append_right _ (List.mem_append_left _ h)))))))))))
theorem in_gc_2 : ∀ w ∈ gc_2, w ∈ gw_T := fun _ h => List.mem_append_right _ (List.mem_append_right _ (List.mem_append_right _ (List.mem_append_right _ (List.mem_append_right _ (List.mem_append_right _ (List.mem_append_right _ (List.mem_append_right _ (List.mem_append_right _ (List.mem_append_right _ (List.mem_append_right _ (List.mem_append_right _ (List.mem_append_left _ h))))))))))))
theorem in_gc_3 : ∀ w ∈ gc_3, w ∈ gw_T := fun _ h => List.mem_append_right _ (List.mem_append_right _ (List.mem_append_right _ (List.mem_append_right _ (List.mem_append_right _ (List.mem_append_right _ (List.mem_append_right _ (List.mem_append_right _ (List.mem_append_right _ (List.mem_append_right _ (List.mem_append_right _ (List.mem_append_right _ (List.mem_append_right _ (List.mem_append_left _ h)))))))))))))
theorem in_gc_4 : ∀ w ∈ gc_4, w ∈ gw_T := fun _ h => List.mem_append_right _ (List.mem_append_right _ (List.mem_append_right _ (List.mem_append_right _ (List.mem_append_right _ (List.mem_append_right _ (List.mem_append_right _ (List.mem_append_right _ (List.mem_append_right _ (List.mem_append_right _ (List.mem_append_right _ (List.mem_append_right _ (List.mem_append_right _ (List.mem_append_right _ (List.mem_append_left _ h))))))))))))))
theorem in_gc_5 : ∀ w ∈ gc_5, w ∈ gw_T := fun _ h => List.mem_append_right _ (List.mem_append_right _ (List.mem_append_right _ (List.mem_append_right _ (List.mem_append_right _ (List.mem_append_right _ (List.mem_append_right _ (List.mem_append_right _ (List.mem_append_right _ (List.mem_append_right _ (List.mem_append_right _ (List.mem_append_right _ (List.mem_append_right _ (List.mem_append_right _ (List.mem_append_right _ (List.mem_append_left _ h)))))))))))))))
theorem in_gc_6 : ∀ w ∈ gc_6, w ∈ gw_T := fun _ h => List.mem_append_right _ (List.mem_append_right _ (List.mem_append_right _ (List.mem_append_right _ (List.mem_append_right _ (List.mem_append_right _ (List.mem_append_right _ (List.mem_append_right _ (List.mem_append_right _ (List.mem_append_right _ (List.mem_append_right _ (List.mem_append_right _ (List.mem_append_right _ (List.mem_append_right _ (List.mem_append_right _ (List.mem_append_right _ (List.mem_append_left _ h))))))))))))))))
theorem in_gc_7 : ∀ w ∈ gc_7, w ∈ gw_T := fun _ h => List.mem_append_right _ (List.mem_append_right _ (List.mem_append_right _ (List.mem_append_right _ (List.mem_append_right _ (List.mem_append_right _ (List.mem_append_right _ (List.mem_append_right _ (List.mem_append_right _ (List.mem_append_right _ (List.mem_append_right _ (List.mem_append_right _ (List.mem_append_right _ (List.mem_append_right _ (List.mem_append_right _ (List.mem_append_right _ (List.mem_append_right _ (List.mem_append_left _ h)))))))))))))))))
theorem in_gc_8 : ∀ w ∈ gc_8, w ∈ gw_T := fun _ h => List.mem_append_right _ (List.mem_append_right _ (List.mem_append_right _ (List.mem_append_right _ (List.mem_append_right _ (List.mem_append_right _ (List.mem_append_right _ (List.mem_append_right _ (List.mem_append_right _ (List.mem_append_right _ (List.mem_append_right _ (List.mem_append_right _ (List.mem_append_right _ (List.mem_append_right _ (List.mem_append_right _ (List.mem_append_right _ (List.mem_append_right _ (List.mem_append_right _ (List.mem_append_left _ h))))))))))))))))))
theorem in_gc_9 : ∀ w ∈ gc_9, w ∈ gw_T := fun _ h => List.mem_append_right _ (List.mem_append_right _ (List.mem_append_right _ (List.mem_append_right _ (List.mem_append_right _ (List.mem_append_right _ (List.mem_append_right _ (List.mem_append_right _ (List.mem_append_right _ (List.mem_append_right _ (List.mem_append_right _ (List.mem_append_right _ (List.mem_append_right _ (List.mem_append_right _ (List.mem_append_right _ (List.mem_append_right _ (List.mem_append_right _ (List.mem_append_right _ (List.mem_append_right _ (List.mem_append_left _ h)))))))))))))))))))
theorem in_gc_10 : ∀ w ∈ gc_10, w ∈ gw_T := fun _ h => List.mem_append_right _ (List.mem_append_right _ (List.mem_append_right _ (List.mem_append_right _ (List.mem_append_right _ (List.mem_append_right _ (List.mem_append_right _ (List.mem_append_right _ (List.mem_append_right _ (List.mem_append_right _ (List.mem_append_right _ (List.mem_append_right _ (List.mem_append_right _ (List.mem_append_right _ (List.mem_append_right _ (List.mem_append_right _ (List.mem_append_right _ (List.mem_append_right _ (List.mem_append_right _ (List.mem_append_right _ (List.mem_append_left _ h))))))))))))))))))))
theorem in_gc_11 : ∀ w ∈ gc_11, w ∈ gw_T := fun _ h => List.mem_append_right _ (List.mem_append_right _ (List.mem_append_right _ (List.mem_append_right _ (List.mem_append_right _ (List.mem_append_right _ (List.mem_append_right _ (List.mem_append_right _ (List.mem_append_right _ (List.mem_append_right _ (List.mem_append_right _ (List.mem_append_right _ (List.mem_append_right _ (List.mem_append_right _ (List.mem_append_right _ (List.mem_append_right _ (List.mem_append_right _ (List.mem_append_right _ (List.mem_append_right _ (List.mem_append_right _ (List.mem_append_right _ (List.mem_append_left _ h)))))))))))))))))))))
theorem in_gc_12 : ∀ w ∈ gc_12, w ∈ gw_T := fun _ h => List.mem_append_right _ (List.mem_append_right _ (List.mem_append_right _ (List.mem_append_right _ (List.mem_append_right _ (List.mem_append_right _ (List.mem_append_right _ (List.mem_append_right _ (List.mem_append_right _ (List.mem_append_right _ (List.mem_append_right _ (List.mem_append_right _ (List.mem_append_right _ (List.mem_append_right _ (List.mem_append_right _ (List.mem_append_right _ (List.mem_append_right _ (List.mem_append_right _ (List.mem_append_right _ (List.mem_append_right _ (List.mem_append_right _ (List.mem_append_right _ (List.mem_append_left _ h))))))))))))))))))))))
theorem in_gc_13 : ∀ w ∈ gc_13, w ∈ gw_T := fun _ h => List.mem_append_right _ (List.mem_append_right _ (List.mem_append_right _ (List.mem_append_right _ (List.mem_append_right _ (List.mem_append_right _ (List.mem_append_right _ (List.mem_append_right _ (List.mem_append_right _ (List.mem_append_right _ (List.mem_append_right _ (List.mem_append_right _ (List.mem_append_right _ (List.mem_append_right _ (List.mem_append_right _ (List.mem_append_right _ (List.mem_append_right _ (List.mem_append_right _ (List.mem_append_right _ (List.mem_append_right _ (List.mem_append_right _ (List.mem_append_right _ (List.mem_append_right _ (List.mem_append_left _ h)))))))))))))))))))))))
theorem in_gc_14 : ∀ w ∈ gc_14, w ∈ gw_T := fun _ h => List.mem_append_right _ (List.mem_append_right _ (List.mem_append_right _ (List.mem_append_right _ (List.mem_append_right _ (List.mem_append_right _ (List.mem_append_right _ (List.mem_append_right _ (List.mem_append_right _ (List.mem_append_right _ (List.mem_append_right _ (List.mem_append_right _ (List.mem_append_right _ (List.mem_append_right _ (List.mem_append_right _ (List.mem_append_right _ (List.mem_append_right _ (List.mem_append_right _ (List.mem_append_right _ (List.mem_append_right _ (List.mem_append_right _ (List.mem_append_right _ (List.mem_append_right _ (List.mem_append_right _ (List.mem_append_left _ h))))))))))))))))))))))))
theorem in_gc_15 : ∀ w ∈ gc_15, w ∈ gw_T := fun _ h => List.mem_append_right _ (List.mem_append_right _ (List.mem_append_right _ (List.mem_append_right _ (List.mem_append_right _ (List.mem_append_right _ (List.mem_append_right _ (List.mem_append_right _ (List.mem_append_right _ (List.mem_append_right _ (List.mem_append_right _ (List.mem_append_right _ (List.mem_append_right _ (List.mem_append_right _ (List.mem_append_right _ (List.mem_append_right _ (List.mem_append_right _ (List.mem_append_right _ (List.mem_append_right _ (List.mem_append_right _ (List.mem_append_right _ (List.mem_append_right _ (List.mem_append_right _ (List.mem_append_right _ (List.mem_append_right _ (List.mem_append_left _ h)))))))))))))))))))))))))
theorem in_gc_16 : ∀ w ∈ gc_16, w ∈ gw_T := fun _ h => List.mem_append_right _ (List.mem_append_right _ (List.mem_append_right _ (List.mem_append_right _ (List.mem_append_right _ (List.mem_append_right _ (List.mem_append_right _ (List.mem_append_right _ (List.mem_append_right _ (List.mem_append_right _ (List.mem_append_right _ (List.mem_append_right _ (List.mem_append_right _ (List.mem_append_right _ (List.mem_append_right _ (List.mem_append_right _ (List.mem_append_right _ (List.mem_append_right _ (List.mem_append_right _ (List.mem_append_right _ (List.mem_append_right _ (List.mem_append_right _ (List.mem_append_right _ (List.mem_append_right _ (List.mem_append_right _ (List.mem_append_right _ (List.mem_append_left _ h))))))))))))))))))))))))))
theorem in_gc_17 : ∀ w ∈ gc_17, w ∈ gw_T := fun _ h => List.mem_append_right _ (List.mem_append_right _ (List.mem_append_right _ (List.mem_append_right _ (List.mem_append_right _ (List.mem_append_right _ (List.mem_append_right _ (List.mem_append_right _ (List.mem_append_right _ (List.mem_append_right _ (List.mem_append_right _ (List.mem_append_right _ (List.mem_append_right _ (List.mem_append_right _ (List.mem_append_right _ (List.mem_append_right _ (List.mem_append_right _ (List.mem_append_right _ (List.mem_append_right _ (List.mem_append_right _ (List.mem_append_right _ (List.mem_append_right _ (List.mem_append_right _ (List.mem_append_right _ (List.mem_append_right _ (List.mem_append_right _ (List.mem_append_right _ (List.mem_append_left _ h)))))))))))))))))))))))))))
theorem in_gc_18 : ∀ w ∈ gc_18, w ∈ gw_T := fun _ h => List.mem_append_right _ (List.mem_append_right _ (List.mem_append_right _ (List.mem_append_right _ (List.mem_append_right _ (List.mem_append_right _ (List.mem_append_right _ (List.mem_append_right _ (List.mem_append_right _ (List.mem_append_right _ (List.mem_append_right _ (List.mem_append_right _ (List.mem_append_right _ (List.mem_append_right _ (List.mem_append_right _ (List.mem_append_right _ (List.mem_append_right _ (List.mem_append_right _ (List.mem_append_right _ (List.mem_append_right _ (List.mem_append_right _ (List.mem_append_right _ (List.mem_append_right _ (List.mem_append_right _ (List.mem_append_right _ (List.mem_append_right _ (List.mem_append_right _ (List.mem_append_right _ (List.mem_append_left _ h))))))))))))))))))))))))))))
theorem in_gc_19 : ∀ w ∈ gc_19, w ∈ gw_T := fun _ h => List.mem_append_right _ (List.mem_append_right _ (List.mem_append_right _ (List.mem_append_right _ (List.mem_append_right _ (List.mem_append_right _ (List.mem_append_right _ (List.mem_append_right _ (List.mem_append_right _ (List.mem_append_right _ (List.mem_append_right _ (List.mem_append_right _ (List.mem_append_right _ (List.mem_append_right _ (List.mem_append_right _ (List.mem_append_right _ (List.mem_append_right _ (List.mem_append_right _ (List.mem_append_right _ (List.mem_append_right _ (List.mem_append_right _ (List.mem_append_right _ (List.mem_append_right _ (List.mem_append_right _ (List.mem_append_right _ (List.mem_append_right _ (List.mem_append_right _ (List.mem_append_right _ (List.mem_append_right _ (h)))))))))))))))))))))))))))))
theorem gRX0 : ∀ w ∈ u_ws RX0 TX0 2, w ∈ gw_T := in_gl_0
theorem gRX1 : ∀ w ∈ u_ws RX1 TX1 5, w ∈ gw_T := in_gl_1
theorem gRX2 : ∀ w ∈ u_ws RX2 TX2 11, w ∈ gw_T := in_gl_2
theorem gRX3 : ∀ w ∈ u_ws RX3 TX3 16, w ∈ gw_T := in_gl_3
theorem gRX4 : ∀ w ∈ u_ws RX4 TX4 4, w ∈ gw_T := in_gl_4
theorem gRX5 : ∀ w ∈ u_ws RX5 TX5 5, w ∈ gw_T := in_gl_5
theorem gRX6 : ∀ w ∈ u_ws RX6 TX6 9, w ∈ gw_T := in_gl_6
theorem gRX7 : ∀ w ∈ u_ws RX7 TX7 11, w ∈ gw_T := in_gl_7
theorem gRX8 : ∀ w ∈ u_ws RX8 TX8 13, w ∈ gw_T := in_gl_8
theorem gRX9 : ∀ w ∈ u_ws RX9 TX9 37, w ∈ gw_T := in_gl_9
theorem wi_0 : Cond.selects RX3 yX3_empty yX3_empty ∈ gw_T := in_gc_0 _ (List.mem_of_getElem? (i := 0) rfl)
theorem wi_1 : Cond.selects RX8 yX8_tapeInt yX8_tapeInt ∈ gw_T := in_gc_0 _ (List.mem_of_getElem? (i := 1) rfl)
theorem wi_2 : Cond.selects RX6 yX6_readText yX6_readText ∈ gw_T := in_gc_0 _ (List.mem_of_getElem? (i := 2) rfl)
theorem wi_3 : Cond.selects RX6 yX6_advance yX6_advance ∈ gw_T := in_gc_0 _ (List.mem_of_getElem? (i := 3) rfl)
theorem wi_4 : Cond.selects RX6 yX6_endOf yX6_endOf ∈ gw_T := in_gc_0 _ (List.mem_of_getElem? (i := 4) rfl)
theorem wi_5 : Cond.selects RX6 yX6_kindAt yX6_kindAt ∈ gw_T := in_gc_0 _ (List.mem_of_getElem? (i := 5) rfl)
theorem wi_17 : Cond.selects RX3 yX3_become yX3_become ∈ gw_T := in_gc_0 _ (List.mem_of_getElem? (i := 6) rfl)
theorem wi_18 : Cond.selects RX3 yX3_hasStrip yX3_hasStrip ∈ gw_T := in_gc_0 _ (List.mem_of_getElem? (i := 7) rfl)
theorem wi_22 : Cond.selects RX3 yX3_sumOfFarm yX3_sumOfFarm ∈ gw_T := in_gc_0 _ (List.mem_of_getElem? (i := 8) rfl)
theorem wi_23 : Cond.selects RX3 yX3_stripsOfFarm yX3_stripsOfFarm ∈ gw_T := in_gc_0 _ (List.mem_of_getElem? (i := 9) rfl)
theorem wi_27 : Cond.selects RX3 yX3_areStrips yX3_areStrips ∈ gw_T := in_gc_0 _ (List.mem_of_getElem? (i := 10) rfl)
theorem wi_28 : Cond.selects RX3 yX3_allStrips yX3_allStrips ∈ gw_T := in_gc_0 _ (List.mem_of_getElem? (i := 11) rfl)
theorem wi_30 : Cond.selects RX3 yX3_whyNot yX3_whyNot ∈ gw_T := in_gc_0 _ (List.mem_of_getElem? (i := 12) rfl)
theorem wi_31 : Cond.selects RX3 yX3_target yX3_target ∈ gw_T := in_gc_0 _ (List.mem_of_getElem? (i := 13) rfl)
theorem wi_35 : Cond.selects RX3 yX3_sum yX3_sum ∈ gw_T := in_gc_0 _ (List.mem_of_getElem? (i := 14) rfl)
theorem wi_36 : Cond.selects RX3 yX3_hangsOver yX3_hangsOver ∈ gw_T := in_gc_0 _ (List.mem_of_getElem? (i := 15) rfl)
theorem wi_37 : Cond.selects RX8 yX8_refusedSearch yX8_refusedSearch ∈ gw_T := in_gc_0 _ (List.mem_of_getElem? (i := 16) rfl)
theorem wi_65 : Cond.selects RX0 yX0_fewest yX0_fewest ∈ gw_T := in_gc_0 _ (List.mem_of_getElem? (i := 17) rfl)
theorem wi_66 : Cond.selects RX0 yX0_look yX0_look ∈ gw_T := in_gc_0 _ (List.mem_of_getElem? (i := 18) rfl)
theorem wi_67 : Cond.selects RX0 yX0_leastBits yX0_leastBits ∈ gw_T := in_gc_0 _ (List.mem_of_getElem? (i := 19) rfl)
theorem wi_68 : Cond.selects RX8 yX8_refusedStubble yX8_refusedStubble ∈ gw_T := in_gc_1 _ (List.mem_of_getElem? (i := 0) rfl)
theorem wi_73 : Cond.selects RX8 yX8_refusedMeeting yX8_refusedMeeting ∈ gw_T := in_gc_1 _ (List.mem_of_getElem? (i := 1) rfl)
theorem wi_75 : Cond.selects RX4 yX4_renew yX4_renew ∈ gw_T := in_gc_1 _ (List.mem_of_getElem? (i := 2) rfl)
theorem wi_78 : Cond.selects RX9 yX9_next yX9_next ∈ gw_T := in_gc_1 _ (List.mem_of_getElem? (i := 3) rfl)
theorem wi_79 : Cond.selects RX9 yX9_see yX9_see ∈ gw_T := in_gc_1 _ (List.mem_of_getElem? (i := 4) rfl)
theorem wi_90 : Cond.selects RX9 yX9_isStrip yX9_isStrip ∈ gw_T := in_gc_1 _ (List.mem_of_getElem? (i := 5) rfl)
theorem wi_95 : Cond.selects RX9 yX9_ofFarm yX9_ofFarm ∈ gw_T := in_gc_1 _ (List.mem_of_getElem? (i := 6) rfl)
theorem wi_96 : Cond.selects RX9 yX9_stripsOf yX9_stripsOf ∈ gw_T := in_gc_1 _ (List.mem_of_getElem? (i := 7) rfl)
theorem wi_98 : Cond.selects RX9 yX9_isSet yX9_isSet ∈ gw_T := in_gc_1 _ (List.mem_of_getElem? (i := 8) rfl)
theorem wi_99 : Cond.selects RX9 yX9_refuses yX9_refuses ∈ gw_T := in_gc_1 _ (List.mem_of_getElem? (i := 9) rfl)
theorem wi_105 : Cond.selects RX9 yX9_told yX9_told ∈ gw_T := in_gc_1 _ (List.mem_of_getElem? (i := 10) rfl)
theorem wi_113 : Cond.selects RX9 yX9_haltsFor yX9_haltsFor ∈ gw_T := in_gc_1 _ (List.mem_of_getElem? (i := 11) rfl)
theorem wi_114 : Cond.selects RX9 yX9_laysStubble yX9_laysStubble ∈ gw_T := in_gc_1 _ (List.mem_of_getElem? (i := 12) rfl)
theorem wi_119 : Cond.selects RX9 yX9_sumOf yX9_sumOf ∈ gw_T := in_gc_1 _ (List.mem_of_getElem? (i := 13) rfl)
theorem wi_121 : Cond.initialized RX8 ∈ gw_T := in_gc_1 _ (List.mem_of_getElem? (i := 14) rfl)
theorem wi_122 : Cond.initialized RX6 ∈ gw_T := in_gc_1 _ (List.mem_of_getElem? (i := 15) rfl)
theorem wi_123 : Cond.initialized RX3 ∈ gw_T := in_gc_1 _ (List.mem_of_getElem? (i := 16) rfl)
theorem wi_124 : Cond.initialized RJ7 ∈ gw_T := in_gc_1 _ (List.mem_of_getElem? (i := 17) rfl)
theorem wi_125 : Cond.initialized RX7 ∈ gw_T := in_gc_1 _ (List.mem_of_getElem? (i := 18) rfl)
theorem wi_126 : Cond.initialized RX2 ∈ gw_T := in_gc_1 _ (List.mem_of_getElem? (i := 19) rfl)
theorem wi_127 : Cond.initialized RX5 ∈ gw_T := in_gc_2 _ (List.mem_of_getElem? (i := 0) rfl)
theorem wi_128 : Cond.initialized RX1 ∈ gw_T := in_gc_2 _ (List.mem_of_getElem? (i := 1) rfl)
theorem wi_129 : Cond.initialized RX0 ∈ gw_T := in_gc_2 _ (List.mem_of_getElem? (i := 2) rfl)
theorem wi_130 : Cond.initialized RX4 ∈ gw_T := in_gc_2 _ (List.mem_of_getElem? (i := 3) rfl)
theorem wi_131 : Cond.initialized RX9 ∈ gw_T := in_gc_2 _ (List.mem_of_getElem? (i := 4) rfl)
theorem wi_132 : Cond.initialized "java/lang/Math" ∈ gw_T := in_gc_2 _ (List.mem_of_getElem? (i := 5) rfl)
theorem wi_133 : Cond.initialized "java/lang/System" ∈ gw_T := in_gc_2 _ (List.mem_of_getElem? (i := 6) rfl)
theorem wi_144 : Cond.methodLink RX8 1 objectInit ∈ gw_T := in_gc_2 _ (List.mem_of_getElem? (i := 7) rfl)
theorem wi_145 : Cond.instanceMethod objectInit ∈ gw_T := in_gc_2 _ (List.mem_of_getElem? (i := 8) rfl)
theorem wi_147 : Cond.classLink RX8 17 RX6 ∈ gw_T := in_gc_2 _ (List.mem_of_getElem? (i := 9) rfl)
theorem wi_148 : Cond.instantiable RX6 9 ∈ gw_T := in_gc_2 _ (List.mem_of_getElem? (i := 10) rfl)
theorem wi_150 : Cond.instanceMethod yX6_init ∈ gw_T := in_gc_2 _ (List.mem_of_getElem? (i := 11) rfl)
theorem wi_152 : Cond.methodLink RX6 3 objectInit ∈ gw_T := in_gc_2 _ (List.mem_of_getElem? (i := 12) rfl)
theorem wi_153 : Cond.classLink RX6 9 RX3 ∈ gw_T := in_gc_2 _ (List.mem_of_getElem? (i := 13) rfl)
theorem wi_154 : Cond.instantiable RX3 16 ∈ gw_T := in_gc_2 _ (List.mem_of_getElem? (i := 14) rfl)
theorem wi_156 : Cond.instanceMethod yX3_init ∈ gw_T := in_gc_2 _ (List.mem_of_getElem? (i := 15) rfl)
theorem wi_158 : Cond.methodLink RX3 3 objectInit ∈ gw_T := in_gc_2 _ (List.mem_of_getElem? (i := 16) rfl)
theorem wi_159 : Cond.methodLink RX3 30 yX3_empty ∈ gw_T := in_gc_2 _ (List.mem_of_getElem? (i := 17) rfl)
theorem wi_161 : Cond.instanceMethod yX3_empty ∈ gw_T := in_gc_2 _ (List.mem_of_getElem? (i := 18) rfl)
theorem wi_163 : Cond.methodLink RX3 64 yJ7_fill_53178 ∈ gw_T := in_gc_2 _ (List.mem_of_getElem? (i := 19) rfl)
theorem wi_164 : Cond.static yJ7_fill_53178 ∈ gw_T := in_gc_3 _ (List.mem_of_getElem? (i := 0) rfl)
theorem wi_166 : Cond.fieldLink RX3 33 "RopeMoon$Plain" "strips" "I" ∈ gw_T := in_gc_3 _ (List.mem_of_getElem? (i := 1) rfl)
theorem wi_173 : Cond.fieldLink RX3 37 "RopeMoon$Plain" "lines" "I" ∈ gw_T := in_gc_3 _ (List.mem_of_getElem? (i := 2) rfl)
theorem wi_176 : Cond.fieldLink RX3 40 "RopeMoon$Plain" "minute" "I" ∈ gw_T := in_gc_3 _ (List.mem_of_getElem? (i := 3) rfl)
theorem wi_178 : Cond.fieldLink RX3 43 "RopeMoon$Plain" "at" "I" ∈ gw_T := in_gc_3 _ (List.mem_of_getElem? (i := 4) rfl)
theorem wi_181 : Cond.fieldLink RX3 46 "RopeMoon$Plain" "rope" "I" ∈ gw_T := in_gc_3 _ (List.mem_of_getElem? (i := 5) rfl)
theorem wi_184 : Cond.fieldLink RX3 49 "RopeMoon$Plain" "power" "I" ∈ gw_T := in_gc_3 _ (List.mem_of_getElem? (i := 6) rfl)
theorem wi_187 : Cond.fieldLink RX3 52 "RopeMoon$Plain" "fade" "I" ∈ gw_T := in_gc_3 _ (List.mem_of_getElem? (i := 7) rfl)
theorem wi_190 : Cond.fieldLink RX3 55 "RopeMoon$Plain" "oil" "I" ∈ gw_T := in_gc_3 _ (List.mem_of_getElem? (i := 8) rfl)
theorem wi_193 : Cond.fieldLink RX3 58 "RopeMoon$Plain" "moths" "I" ∈ gw_T := in_gc_3 _ (List.mem_of_getElem? (i := 9) rfl)
theorem wi_196 : Cond.fieldLink RX3 61 "RopeMoon$Plain" "crossing" "I" ∈ gw_T := in_gc_3 _ (List.mem_of_getElem? (i := 10) rfl)
theorem wi_199 : Cond.fieldLink RX3 9 "RopeMoon$Plain" "crops" "[I" ∈ gw_T := in_gc_3 _ (List.mem_of_getElem? (i := 11) rfl)
theorem wi_203 : Cond.fieldLink RX3 15 "RopeMoon$Plain" "reapers" "[I" ∈ gw_T := in_gc_3 _ (List.mem_of_getElem? (i := 12) rfl)
theorem wi_206 : Cond.fieldLink RX3 18 "RopeMoon$Plain" "trees" "[I" ∈ gw_T := in_gc_3 _ (List.mem_of_getElem? (i := 13) rfl)
theorem wi_208 : Cond.fieldLink RX3 21 "RopeMoon$Plain" "farms" "[I" ∈ gw_T := in_gc_3 _ (List.mem_of_getElem? (i := 14) rfl)
theorem wi_211 : Cond.fieldLink RX3 24 "RopeMoon$Plain" "reaped" "[I" ∈ gw_T := in_gc_3 _ (List.mem_of_getElem? (i := 15) rfl)
theorem wi_213 : Cond.fieldLink RX3 27 "RopeMoon$Plain" "bids" "[I" ∈ gw_T := in_gc_3 _ (List.mem_of_getElem? (i := 16) rfl)
theorem wi_250 : Cond.arrayClass .byte ∈ gw_T := in_gc_3 _ (List.mem_of_getElem? (i := 17) rfl)
theorem wi_251 : Cond.arrayClass .int ∈ gw_T := in_gc_3 _ (List.mem_of_getElem? (i := 18) rfl)
theorem wi_252 : Cond.fieldLink RX6 12 "RopeMoon$TextReader" "told" "LRopeMoon$Plain;" ∈ gw_T := in_gc_3 _ (List.mem_of_getElem? (i := 19) rfl)
theorem wi_254 : Cond.fieldLink RX6 18 "RopeMoon$TextReader" "faultKind" "I" ∈ gw_T := in_gc_4 _ (List.mem_of_getElem? (i := 0) rfl)
theorem wi_256 : Cond.fieldLink RX6 22 "RopeMoon$TextReader" "faultPlace" "I" ∈ gw_T := in_gc_4 _ (List.mem_of_getElem? (i := 1) rfl)
theorem wi_258 : Cond.fieldLink RX6 25 "RopeMoon$TextReader" "text" "[B" ∈ gw_T := in_gc_4 _ (List.mem_of_getElem? (i := 2) rfl)
theorem wi_259 : Cond.fieldLink RX6 29 "RopeMoon$TextReader" "length" "I" ∈ gw_T := in_gc_4 _ (List.mem_of_getElem? (i := 3) rfl)
theorem wi_260 : Cond.fieldLink RX6 32 "RopeMoon$TextReader" "start" "I" ∈ gw_T := in_gc_4 _ (List.mem_of_getElem? (i := 4) rfl)
theorem wi_261 : Cond.fieldLink RX6 35 "RopeMoon$TextReader" "next" "I" ∈ gw_T := in_gc_4 _ (List.mem_of_getElem? (i := 5) rfl)
theorem wi_262 : Cond.fieldLink RX6 38 "RopeMoon$TextReader" "token" "I" ∈ gw_T := in_gc_4 _ (List.mem_of_getElem? (i := 6) rfl)
theorem wi_263 : Cond.fieldLink RX6 41 "RopeMoon$TextReader" "value" "I" ∈ gw_T := in_gc_4 _ (List.mem_of_getElem? (i := 7) rfl)
theorem wi_283 : Cond.classLink RX8 24 RX3 ∈ gw_T := in_gc_4 _ (List.mem_of_getElem? (i := 8) rfl)
theorem wi_286 : Cond.classLink RX8 42 RX4 ∈ gw_T := in_gc_4 _ (List.mem_of_getElem? (i := 9) rfl)
theorem wi_288 : Cond.classLink RX8 48 RX7 ∈ gw_T := in_gc_4 _ (List.mem_of_getElem? (i := 10) rfl)
theorem wi_289 : Cond.instantiable RX7 11 ∈ gw_T := in_gc_4 _ (List.mem_of_getElem? (i := 11) rfl)
theorem wi_291 : Cond.instanceMethod yX7_init ∈ gw_T := in_gc_4 _ (List.mem_of_getElem? (i := 12) rfl)
theorem wi_293 : Cond.methodLink RX7 3 objectInit ∈ gw_T := in_gc_4 _ (List.mem_of_getElem? (i := 13) rfl)
theorem wi_294 : Cond.fieldLink RX7 11 "RopeMoon$Walks" "hangs" "[J" ∈ gw_T := in_gc_4 _ (List.mem_of_getElem? (i := 14) rfl)
theorem wi_299 : Cond.fieldLink RX7 15 "RopeMoon$Walks" "places" "[I" ∈ gw_T := in_gc_4 _ (List.mem_of_getElem? (i := 15) rfl)
theorem wi_300 : Cond.fieldLink RX7 19 "RopeMoon$Walks" "ways" "[I" ∈ gw_T := in_gc_4 _ (List.mem_of_getElem? (i := 16) rfl)
theorem wi_302 : Cond.fieldLink RX7 22 "RopeMoon$Walks" "moves" "[I" ∈ gw_T := in_gc_4 _ (List.mem_of_getElem? (i := 17) rfl)
theorem wi_303 : Cond.fieldLink RX7 25 "RopeMoon$Walks" "twin" "[Z" ∈ gw_T := in_gc_4 _ (List.mem_of_getElem? (i := 18) rfl)
theorem wi_307 : Cond.fieldLink RX7 29 "RopeMoon$Walks" "slots" "[I" ∈ gw_T := in_gc_4 _ (List.mem_of_getElem? (i := 19) rfl)
theorem wi_308 : Cond.fieldLink RX7 32 "RopeMoon$Walks" "starts" "[I" ∈ gw_T := in_gc_5 _ (List.mem_of_getElem? (i := 0) rfl)
theorem wi_309 : Cond.fieldLink RX7 35 "RopeMoon$Walks" "strips" "I" ∈ gw_T := in_gc_5 _ (List.mem_of_getElem? (i := 1) rfl)
theorem wi_310 : Cond.fieldLink RX7 39 "RopeMoon$Walks" "from" "I" ∈ gw_T := in_gc_5 _ (List.mem_of_getElem? (i := 2) rfl)
theorem wi_311 : Cond.fieldLink RX7 42 "RopeMoon$Walks" "laid" "I" ∈ gw_T := in_gc_5 _ (List.mem_of_getElem? (i := 3) rfl)
theorem wi_312 : Cond.fieldLink RX7 45 "RopeMoon$Walks" "size" "I" ∈ gw_T := in_gc_5 _ (List.mem_of_getElem? (i := 4) rfl)
theorem wi_336 : Cond.arrayClass .boolean ∈ gw_T := in_gc_5 _ (List.mem_of_getElem? (i := 5) rfl)
theorem wi_337 : Cond.arrayClass .long ∈ gw_T := in_gc_5 _ (List.mem_of_getElem? (i := 6) rfl)
theorem wi_338 : Cond.classLink RX8 55 RX2 ∈ gw_T := in_gc_5 _ (List.mem_of_getElem? (i := 7) rfl)
theorem wi_339 : Cond.instantiable RX2 11 ∈ gw_T := in_gc_5 _ (List.mem_of_getElem? (i := 8) rfl)
theorem wi_341 : Cond.instanceMethod yX2_init ∈ gw_T := in_gc_5 _ (List.mem_of_getElem? (i := 9) rfl)
theorem wi_343 : Cond.methodLink RX2 3 objectInit ∈ gw_T := in_gc_5 _ (List.mem_of_getElem? (i := 10) rfl)
theorem wi_344 : Cond.classLink RX2 9 RX3 ∈ gw_T := in_gc_5 _ (List.mem_of_getElem? (i := 11) rfl)
theorem wi_346 : Cond.fieldLink RX2 12 "RopeMoon$Harvest" "over" "LRopeMoon$Plain;" ∈ gw_T := in_gc_5 _ (List.mem_of_getElem? (i := 12) rfl)
theorem wi_349 : Cond.fieldLink RX2 18 "RopeMoon$Harvest" "goal" "I" ∈ gw_T := in_gc_5 _ (List.mem_of_getElem? (i := 13) rfl)
theorem wi_350 : Cond.fieldLink RX2 22 "RopeMoon$Harvest" "weights" "[I" ∈ gw_T := in_gc_5 _ (List.mem_of_getElem? (i := 14) rfl)
theorem wi_351 : Cond.fieldLink RX2 26 "RopeMoon$Harvest" "caps" "[I" ∈ gw_T := in_gc_5 _ (List.mem_of_getElem? (i := 15) rfl)
theorem wi_354 : Cond.fieldLink RX2 29 "RopeMoon$Harvest" "firstWorths" "[I" ∈ gw_T := in_gc_5 _ (List.mem_of_getElem? (i := 16) rfl)
theorem wi_355 : Cond.fieldLink RX2 32 "RopeMoon$Harvest" "farmGot" "[I" ∈ gw_T := in_gc_5 _ (List.mem_of_getElem? (i := 17) rfl)
theorem wi_356 : Cond.fieldLink RX2 35 "RopeMoon$Harvest" "hungOver" "[I" ∈ gw_T := in_gc_5 _ (List.mem_of_getElem? (i := 18) rfl)
theorem wi_357 : Cond.fieldLink RX2 38 "RopeMoon$Harvest" "hungTimes" "[I" ∈ gw_T := in_gc_5 _ (List.mem_of_getElem? (i := 19) rfl)
theorem wi_358 : Cond.fieldLink RX2 41 "RopeMoon$Harvest" "hung" "I" ∈ gw_T := in_gc_6 _ (List.mem_of_getElem? (i := 0) rfl)
theorem wi_359 : Cond.fieldLink RX2 44 "RopeMoon$Harvest" "bestScore" "I" ∈ gw_T := in_gc_6 _ (List.mem_of_getElem? (i := 1) rfl)
theorem wi_361 : Cond.fieldLink RX2 47 "RopeMoon$Harvest" "bestState" "I" ∈ gw_T := in_gc_6 _ (List.mem_of_getElem? (i := 2) rfl)
theorem wi_386 : Cond.classLink RX8 62 RX5 ∈ gw_T := in_gc_6 _ (List.mem_of_getElem? (i := 3) rfl)
theorem wi_387 : Cond.instantiable RX5 5 ∈ gw_T := in_gc_6 _ (List.mem_of_getElem? (i := 4) rfl)
theorem wi_389 : Cond.instanceMethod yX5_init ∈ gw_T := in_gc_6 _ (List.mem_of_getElem? (i := 5) rfl)
theorem wi_391 : Cond.methodLink RX5 3 objectInit ∈ gw_T := in_gc_6 _ (List.mem_of_getElem? (i := 6) rfl)
theorem wi_392 : Cond.fieldLink RX5 9 "RopeMoon$Shifts" "fewerCaps" "[I" ∈ gw_T := in_gc_6 _ (List.mem_of_getElem? (i := 7) rfl)
theorem wi_393 : Cond.fieldLink RX5 15 "RopeMoon$Shifts" "moreCaps" "[I" ∈ gw_T := in_gc_6 _ (List.mem_of_getElem? (i := 8) rfl)
theorem wi_394 : Cond.fieldLink RX5 18 "RopeMoon$Shifts" "without" "[I" ∈ gw_T := in_gc_6 _ (List.mem_of_getElem? (i := 9) rfl)
theorem wi_395 : Cond.fieldLink RX5 21 "RopeMoon$Shifts" "with" "[I" ∈ gw_T := in_gc_6 _ (List.mem_of_getElem? (i := 10) rfl)
theorem wi_396 : Cond.fieldLink RX5 24 "RopeMoon$Shifts" "mostSheaves" "[I" ∈ gw_T := in_gc_6 _ (List.mem_of_getElem? (i := 11) rfl)
theorem wi_409 : Cond.classLink RX8 69 RX1 ∈ gw_T := in_gc_6 _ (List.mem_of_getElem? (i := 12) rfl)
theorem wi_410 : Cond.instantiable RX1 5 ∈ gw_T := in_gc_6 _ (List.mem_of_getElem? (i := 13) rfl)
theorem wi_412 : Cond.instanceMethod yX1_init ∈ gw_T := in_gc_6 _ (List.mem_of_getElem? (i := 14) rfl)
theorem wi_414 : Cond.methodLink RX1 3 objectInit ∈ gw_T := in_gc_6 _ (List.mem_of_getElem? (i := 15) rfl)
theorem wi_415 : Cond.fieldLink RX1 11 "RopeMoon$Ends" "lowCrops" "[J" ∈ gw_T := in_gc_6 _ (List.mem_of_getElem? (i := 16) rfl)
theorem wi_416 : Cond.fieldLink RX1 15 "RopeMoon$Ends" "highCrops" "[J" ∈ gw_T := in_gc_6 _ (List.mem_of_getElem? (i := 17) rfl)
theorem wi_417 : Cond.fieldLink RX1 18 "RopeMoon$Ends" "unlike" "I" ∈ gw_T := in_gc_6 _ (List.mem_of_getElem? (i := 18) rfl)
theorem wi_418 : Cond.fieldLink RX1 22 "RopeMoon$Ends" "explained" "I" ∈ gw_T := in_gc_6 _ (List.mem_of_getElem? (i := 19) rfl)
theorem wi_420 : Cond.fieldLink RX1 25 "RopeMoon$Ends" "sureStrips" "I" ∈ gw_T := in_gc_7 _ (List.mem_of_getElem? (i := 0) rfl)
theorem wi_433 : Cond.classLink RX8 76 RX0 ∈ gw_T := in_gc_7 _ (List.mem_of_getElem? (i := 1) rfl)
theorem wi_434 : Cond.instantiable RX0 2 ∈ gw_T := in_gc_7 _ (List.mem_of_getElem? (i := 2) rfl)
theorem wi_436 : Cond.instanceMethod yX0_init ∈ gw_T := in_gc_7 _ (List.mem_of_getElem? (i := 3) rfl)
theorem wi_438 : Cond.methodLink RX0 3 objectInit ∈ gw_T := in_gc_7 _ (List.mem_of_getElem? (i := 4) rfl)
theorem wi_439 : Cond.fieldLink RX0 9 "RopeMoon$Cover" "litFrom" "[I" ∈ gw_T := in_gc_7 _ (List.mem_of_getElem? (i := 5) rfl)
theorem wi_440 : Cond.fieldLink RX0 15 "RopeMoon$Cover" "lightersOf" "[I" ∈ gw_T := in_gc_7 _ (List.mem_of_getElem? (i := 6) rfl)
theorem wi_446 : Cond.instantiable RX4 4 ∈ gw_T := in_gc_7 _ (List.mem_of_getElem? (i := 7) rfl)
theorem wi_448 : Cond.instanceMethod yX4_init ∈ gw_T := in_gc_7 _ (List.mem_of_getElem? (i := 8) rfl)
theorem wi_450 : Cond.methodLink RX4 3 objectInit ∈ gw_T := in_gc_7 _ (List.mem_of_getElem? (i := 9) rfl)
theorem wi_451 : Cond.fieldLink RX4 9 "RopeMoon$Row" "missing" "Z" ∈ gw_T := in_gc_7 _ (List.mem_of_getElem? (i := 10) rfl)
theorem wi_453 : Cond.fieldLink RX4 15 "RopeMoon$Row" "sort" "I" ∈ gw_T := in_gc_7 _ (List.mem_of_getElem? (i := 11) rfl)
theorem wi_454 : Cond.fieldLink RX4 19 "RopeMoon$Row" "size" "I" ∈ gw_T := in_gc_7 _ (List.mem_of_getElem? (i := 12) rfl)
theorem wi_457 : Cond.fieldLink RX4 22 "RopeMoon$Row" "values" "[J" ∈ gw_T := in_gc_7 _ (List.mem_of_getElem? (i := 13) rfl)
theorem wi_467 : Cond.fieldLink RX8 9 "RopeMoon" "tape" "[B" ∈ gw_T := in_gc_7 _ (List.mem_of_getElem? (i := 14) rfl)
theorem wi_468 : Cond.fieldLink RX8 13 "RopeMoon" "tapeSize" "I" ∈ gw_T := in_gc_7 _ (List.mem_of_getElem? (i := 15) rfl)
theorem wi_469 : Cond.fieldLink RX8 20 "RopeMoon" "reader" "LRopeMoon$TextReader;" ∈ gw_T := in_gc_7 _ (List.mem_of_getElem? (i := 16) rfl)
theorem wi_470 : Cond.fieldLink RX8 27 "RopeMoon" "field" "LRopeMoon$Plain;" ∈ gw_T := in_gc_7 _ (List.mem_of_getElem? (i := 17) rfl)
theorem wi_471 : Cond.fieldLink RX8 31 "RopeMoon" "trial" "LRopeMoon$Plain;" ∈ gw_T := in_gc_7 _ (List.mem_of_getElem? (i := 18) rfl)
theorem wi_472 : Cond.fieldLink RX8 34 "RopeMoon" "images" "[LRopeMoon$Plain;" ∈ gw_T := in_gc_7 _ (List.mem_of_getElem? (i := 19) rfl)
theorem wi_473 : Cond.fieldLink RX8 38 "RopeMoon" "imageMade" "[Z" ∈ gw_T := in_gc_8 _ (List.mem_of_getElem? (i := 0) rfl)
theorem wi_474 : Cond.fieldLink RX8 44 "RopeMoon" "rows" "[LRopeMoon$Row;" ∈ gw_T := in_gc_8 _ (List.mem_of_getElem? (i := 1) rfl)
theorem wi_475 : Cond.fieldLink RX8 51 "RopeMoon" "walks" "LRopeMoon$Walks;" ∈ gw_T := in_gc_8 _ (List.mem_of_getElem? (i := 2) rfl)
theorem wi_476 : Cond.fieldLink RX8 58 "RopeMoon" "harvest" "LRopeMoon$Harvest;" ∈ gw_T := in_gc_8 _ (List.mem_of_getElem? (i := 3) rfl)
theorem wi_477 : Cond.fieldLink RX8 65 "RopeMoon" "shifts" "LRopeMoon$Shifts;" ∈ gw_T := in_gc_8 _ (List.mem_of_getElem? (i := 4) rfl)
theorem wi_478 : Cond.fieldLink RX8 72 "RopeMoon" "endings" "LRopeMoon$Ends;" ∈ gw_T := in_gc_8 _ (List.mem_of_getElem? (i := 5) rfl)
theorem wi_479 : Cond.fieldLink RX8 79 "RopeMoon" "cover" "LRopeMoon$Cover;" ∈ gw_T := in_gc_8 _ (List.mem_of_getElem? (i := 6) rfl)
theorem wi_511 : Cond.methodLink RX8 84 yX8_tapeInt ∈ gw_T := in_gc_8 _ (List.mem_of_getElem? (i := 7) rfl)
theorem wi_513 : Cond.instanceMethod yX8_tapeInt ∈ gw_T := in_gc_8 _ (List.mem_of_getElem? (i := 8) rfl)
theorem wi_521 : Cond.instanceMethod yX6_readText ∈ gw_T := in_gc_8 _ (List.mem_of_getElem? (i := 9) rfl)
theorem wi_523 : Cond.methodLink RX6 44 Lib.Math.min.name ∈ gw_T := in_gc_8 _ (List.mem_of_getElem? (i := 10) rfl)
theorem wi_524 : Cond.static Lib.Math.min.name ∈ gw_T := in_gc_8 _ (List.mem_of_getElem? (i := 11) rfl)
theorem wi_526 : Cond.methodLink RX6 50 Lib.Math.max.name ∈ gw_T := in_gc_8 _ (List.mem_of_getElem? (i := 12) rfl)
theorem wi_527 : Cond.static Lib.Math.max.name ∈ gw_T := in_gc_8 _ (List.mem_of_getElem? (i := 13) rfl)
theorem wi_529 : Cond.methodLink RX6 53 arraycopyName ∈ gw_T := in_gc_8 _ (List.mem_of_getElem? (i := 14) rfl)
theorem wi_530 : Cond.static arraycopyName ∈ gw_T := in_gc_8 _ (List.mem_of_getElem? (i := 15) rfl)
theorem wi_531 : Cond.native arraycopyName ∈ gw_T := in_gc_8 _ (List.mem_of_getElem? (i := 16) rfl)
theorem wi_533 : Cond.methodLink RX6 62 yX6_advance ∈ gw_T := in_gc_8 _ (List.mem_of_getElem? (i := 17) rfl)
theorem wi_535 : Cond.instanceMethod yX6_advance ∈ gw_T := in_gc_8 _ (List.mem_of_getElem? (i := 18) rfl)
theorem wi_537 : Cond.methodLink RX6 163 yX6_endOf ∈ gw_T := in_gc_8 _ (List.mem_of_getElem? (i := 19) rfl)
theorem wi_539 : Cond.instanceMethod yX6_endOf ∈ gw_T := in_gc_9 _ (List.mem_of_getElem? (i := 0) rfl)
theorem wi_541 : Cond.methodLink RX6 166 yX6_kindAt ∈ gw_T := in_gc_9 _ (List.mem_of_getElem? (i := 1) rfl)
theorem wi_543 : Cond.instanceMethod yX6_kindAt ∈ gw_T := in_gc_9 _ (List.mem_of_getElem? (i := 2) rfl)
theorem wi_645 : Cond.static yX8_isFarm ∈ gw_T := in_gc_9 _ (List.mem_of_getElem? (i := 3) rfl)
theorem wi_655 : Cond.instanceMethod yX3_become ∈ gw_T := in_gc_9 _ (List.mem_of_getElem? (i := 4) rfl)
theorem wi_657 : Cond.methodLink RX3 70 arraycopyName ∈ gw_T := in_gc_9 _ (List.mem_of_getElem? (i := 5) rfl)
theorem wi_668 : Cond.instanceMethod yX3_hasStrip ∈ gw_T := in_gc_9 _ (List.mem_of_getElem? (i := 6) rfl)
theorem wi_691 : Cond.methodLink RX8 135 yX8_isFarm ∈ gw_T := in_gc_9 _ (List.mem_of_getElem? (i := 7) rfl)
theorem wi_694 : Cond.instanceMethod yX3_sumOfFarm ∈ gw_T := in_gc_9 _ (List.mem_of_getElem? (i := 8) rfl)
theorem wi_698 : Cond.instanceMethod yX3_stripsOfFarm ∈ gw_T := in_gc_9 _ (List.mem_of_getElem? (i := 9) rfl)
theorem wi_735 : Cond.instanceMethod yX3_areStrips ∈ gw_T := in_gc_9 _ (List.mem_of_getElem? (i := 10) rfl)
theorem wi_737 : Cond.methodLink RX3 76 yX3_allStrips ∈ gw_T := in_gc_9 _ (List.mem_of_getElem? (i := 11) rfl)
theorem wi_739 : Cond.instanceMethod yX3_allStrips ∈ gw_T := in_gc_9 _ (List.mem_of_getElem? (i := 12) rfl)
theorem wi_760 : Cond.instanceMethod yX3_whyNot ∈ gw_T := in_gc_9 _ (List.mem_of_getElem? (i := 13) rfl)
theorem wi_762 : Cond.methodLink RX3 112 yX3_target ∈ gw_T := in_gc_9 _ (List.mem_of_getElem? (i := 14) rfl)
theorem wi_764 : Cond.instanceMethod yX3_target ∈ gw_T := in_gc_9 _ (List.mem_of_getElem? (i := 15) rfl)
theorem wi_766 : Cond.constantLong RX3 106 (2) ∈ gw_T := in_gc_9 _ (List.mem_of_getElem? (i := 16) rfl)
theorem wi_767 : Cond.methodLink RX3 108 yX3_hasStrip ∈ gw_T := in_gc_9 _ (List.mem_of_getElem? (i := 17) rfl)
theorem wi_777 : Cond.methodLink RX8 182 yX8_isRow ∈ gw_T := in_gc_9 _ (List.mem_of_getElem? (i := 18) rfl)
theorem wi_778 : Cond.static yX8_isRow ∈ gw_T := in_gc_9 _ (List.mem_of_getElem? (i := 19) rfl)
theorem wi_794 : Cond.instanceMethod yX3_sum ∈ gw_T := in_gc_10 _ (List.mem_of_getElem? (i := 0) rfl)
theorem wi_798 : Cond.instanceMethod yX3_hangsOver ∈ gw_T := in_gc_10 _ (List.mem_of_getElem? (i := 1) rfl)
theorem wi_808 : Cond.methodLink RX8 211 Lib.Math.min.name ∈ gw_T := in_gc_10 _ (List.mem_of_getElem? (i := 2) rfl)
theorem wi_825 : Cond.methodLink RX8 225 yX8_isAskable ∈ gw_T := in_gc_10 _ (List.mem_of_getElem? (i := 3) rfl)
theorem wi_826 : Cond.static yX8_isAskable ∈ gw_T := in_gc_10 _ (List.mem_of_getElem? (i := 4) rfl)
theorem wi_828 : Cond.methodLink RX8 229 yX8_refusedSearch ∈ gw_T := in_gc_10 _ (List.mem_of_getElem? (i := 5) rfl)
theorem wi_830 : Cond.instanceMethod yX8_refusedSearch ∈ gw_T := in_gc_10 _ (List.mem_of_getElem? (i := 6) rfl)
theorem wi_1014 : Cond.instanceMethod yX0_fewest ∈ gw_T := in_gc_10 _ (List.mem_of_getElem? (i := 7) rfl)
theorem wi_1016 : Cond.methodLink RX0 18 yX0_look ∈ gw_T := in_gc_10 _ (List.mem_of_getElem? (i := 8) rfl)
theorem wi_1018 : Cond.instanceMethod yX0_look ∈ gw_T := in_gc_10 _ (List.mem_of_getElem? (i := 9) rfl)
theorem wi_1020 : Cond.methodLink RX0 40 yJ7_fill_53178 ∈ gw_T := in_gc_10 _ (List.mem_of_getElem? (i := 10) rfl)
theorem wi_1023 : Cond.methodLink RX0 32 yX0_canLight ∈ gw_T := in_gc_10 _ (List.mem_of_getElem? (i := 11) rfl)
theorem wi_1024 : Cond.static yX0_canLight ∈ gw_T := in_gc_10 _ (List.mem_of_getElem? (i := 12) rfl)
theorem wi_1030 : Cond.methodLink RX0 36 yX0_leastBits ∈ gw_T := in_gc_10 _ (List.mem_of_getElem? (i := 13) rfl)
theorem wi_1032 : Cond.instanceMethod yX0_leastBits ∈ gw_T := in_gc_10 _ (List.mem_of_getElem? (i := 14) rfl)
theorem wi_1047 : Cond.methodLink RX8 306 yX8_refusedStubble ∈ gw_T := in_gc_10 _ (List.mem_of_getElem? (i := 15) rfl)
theorem wi_1049 : Cond.instanceMethod yX8_refusedStubble ∈ gw_T := in_gc_10 _ (List.mem_of_getElem? (i := 16) rfl)
theorem wi_1081 : Cond.methodLink RX8 319 yX8_refusedMeeting ∈ gw_T := in_gc_10 _ (List.mem_of_getElem? (i := 17) rfl)
theorem wi_1083 : Cond.instanceMethod yX8_refusedMeeting ∈ gw_T := in_gc_10 _ (List.mem_of_getElem? (i := 18) rfl)
theorem wi_1099 : Cond.instanceMethod yX4_renew ∈ gw_T := in_gc_10 _ (List.mem_of_getElem? (i := 19) rfl)
theorem wi_1101 : Cond.methodLink RX4 26 Lib.Math.min.name ∈ gw_T := in_gc_11 _ (List.mem_of_getElem? (i := 0) rfl)
theorem wi_1102 : Cond.methodLink RX4 32 Lib.Math.max.name ∈ gw_T := in_gc_11 _ (List.mem_of_getElem? (i := 1) rfl)
theorem wi_1103 : Cond.methodLink RX4 35 yJ7_fill_d0a16 ∈ gw_T := in_gc_11 _ (List.mem_of_getElem? (i := 2) rfl)
theorem wi_1104 : Cond.static yJ7_fill_d0a16 ∈ gw_T := in_gc_11 _ (List.mem_of_getElem? (i := 3) rfl)
theorem wi_1110 : Cond.constantLong RX8 330 (-2) ∈ gw_T := in_gc_11 _ (List.mem_of_getElem? (i := 4) rfl)
theorem wi_1111 : Cond.constantLong RX8 332 (-6) ∈ gw_T := in_gc_11 _ (List.mem_of_getElem? (i := 5) rfl)
theorem wi_1143 : Cond.methodLink RX9 7 objectInit ∈ gw_T := in_gc_11 _ (List.mem_of_getElem? (i := 6) rfl)
theorem wi_1144 : Cond.methodLink RX9 61 yX9_plainIn ∈ gw_T := in_gc_11 _ (List.mem_of_getElem? (i := 7) rfl)
theorem wi_1145 : Cond.static yX9_plainIn ∈ gw_T := in_gc_11 _ (List.mem_of_getElem? (i := 8) rfl)
theorem wi_1147 : Cond.methodLink RX9 65 yX9_lampIn ∈ gw_T := in_gc_11 _ (List.mem_of_getElem? (i := 9) rfl)
theorem wi_1148 : Cond.static yX9_lampIn ∈ gw_T := in_gc_11 _ (List.mem_of_getElem? (i := 10) rfl)
theorem wi_1150 : Cond.fieldLink RX9 1 "RopeMoonModel" "thrown" "I" ∈ gw_T := in_gc_11 _ (List.mem_of_getElem? (i := 11) rfl)
theorem wi_1151 : Cond.fieldLink RX9 13 "RopeMoonModel" "all" "[I" ∈ gw_T := in_gc_11 _ (List.mem_of_getElem? (i := 12) rfl)
theorem wi_1152 : Cond.fieldLink RX9 17 "RopeMoonModel" "hasImage" "[Z" ∈ gw_T := in_gc_11 _ (List.mem_of_getElem? (i := 13) rfl)
theorem wi_1153 : Cond.fieldLink RX9 21 "RopeMoonModel" "tape" "[I" ∈ gw_T := in_gc_11 _ (List.mem_of_getElem? (i := 14) rfl)
theorem wi_1154 : Cond.fieldLink RX9 24 "RopeMoonModel" "fresh" "[I" ∈ gw_T := in_gc_11 _ (List.mem_of_getElem? (i := 15) rfl)
theorem wi_1155 : Cond.fieldLink RX9 68 "RopeMoonModel" "taped" "I" ∈ gw_T := in_gc_11 _ (List.mem_of_getElem? (i := 16) rfl)
theorem wi_1156 : Cond.fieldLink RX9 86 "RopeMoonModel" "at" "I" ∈ gw_T := in_gc_11 _ (List.mem_of_getElem? (i := 17) rfl)
theorem wi_1157 : Cond.fieldLink RX9 89 "RopeMoonModel" "behind" "I" ∈ gw_T := in_gc_11 _ (List.mem_of_getElem? (i := 18) rfl)
theorem wi_1158 : Cond.fieldLink RX9 71 "RopeMoonModel" "size" "I" ∈ gw_T := in_gc_11 _ (List.mem_of_getElem? (i := 19) rfl)
theorem wi_1159 : Cond.fieldLink RX9 96 "RopeMoonModel" "kind" "I" ∈ gw_T := in_gc_12 _ (List.mem_of_getElem? (i := 0) rfl)
theorem wi_1161 : Cond.fieldLink RX9 112 "RopeMoonModel" "wrong" "I" ∈ gw_T := in_gc_12 _ (List.mem_of_getElem? (i := 1) rfl)
theorem wi_1163 : Cond.fieldLink RX9 155 "RopeMoonModel" "faultKind" "I" ∈ gw_T := in_gc_12 _ (List.mem_of_getElem? (i := 2) rfl)
theorem wi_1164 : Cond.fieldLink RX9 27 "RopeMoonModel" "faultPlace" "I" ∈ gw_T := in_gc_12 _ (List.mem_of_getElem? (i := 3) rfl)
theorem wi_1165 : Cond.fieldLink RX9 30 "RopeMoonModel" "gotten" "[I" ∈ gw_T := in_gc_12 _ (List.mem_of_getElem? (i := 4) rfl)
theorem wi_1166 : Cond.fieldLink RX9 33 "RopeMoonModel" "kept" "[I" ∈ gw_T := in_gc_12 _ (List.mem_of_getElem? (i := 5) rfl)
theorem wi_1170 : Cond.fieldLink RX9 36 "RopeMoonModel" "moves" "[I" ∈ gw_T := in_gc_12 _ (List.mem_of_getElem? (i := 6) rfl)
theorem wi_1171 : Cond.fieldLink RX9 39 "RopeMoonModel" "bestMoves" "[I" ∈ gw_T := in_gc_12 _ (List.mem_of_getElem? (i := 7) rfl)
theorem wi_1172 : Cond.fieldLink RX9 42 "RopeMoonModel" "bestGotten" "[I" ∈ gw_T := in_gc_12 _ (List.mem_of_getElem? (i := 8) rfl)
theorem wi_1178 : Cond.fieldLink RX9 45 "RopeMoonModel" "crops" "[I" ∈ gw_T := in_gc_12 _ (List.mem_of_getElem? (i := 9) rfl)
theorem wi_1180 : Cond.fieldLink RX9 48 "RopeMoonModel" "litFrom" "[I" ∈ gw_T := in_gc_12 _ (List.mem_of_getElem? (i := 10) rfl)
theorem wi_1184 : Cond.fieldLink RX9 51 "RopeMoonModel" "rowSort" "[I" ∈ gw_T := in_gc_12 _ (List.mem_of_getElem? (i := 11) rfl)
theorem wi_1185 : Cond.fieldLink RX9 54 "RopeMoonModel" "rowMany" "[I" ∈ gw_T := in_gc_12 _ (List.mem_of_getElem? (i := 12) rfl)
theorem wi_1186 : Cond.fieldLink RX9 57 "RopeMoonModel" "numbers" "[J" ∈ gw_T := in_gc_12 _ (List.mem_of_getElem? (i := 13) rfl)
theorem wi_1270 : Cond.methodLink RX9 128 yX9_within ∈ gw_T := in_gc_12 _ (List.mem_of_getElem? (i := 14) rfl)
theorem wi_1271 : Cond.static yX9_within ∈ gw_T := in_gc_12 _ (List.mem_of_getElem? (i := 15) rfl)
theorem wi_1273 : Cond.methodLink RX9 121 yX9_next ∈ gw_T := in_gc_12 _ (List.mem_of_getElem? (i := 16) rfl)
theorem wi_1275 : Cond.instanceMethod yX9_next ∈ gw_T := in_gc_12 _ (List.mem_of_getElem? (i := 17) rfl)
theorem wi_1277 : Cond.methodLink RX9 92 yX9_see ∈ gw_T := in_gc_12 _ (List.mem_of_getElem? (i := 18) rfl)
theorem wi_1279 : Cond.instanceMethod yX9_see ∈ gw_T := in_gc_12 _ (List.mem_of_getElem? (i := 19) rfl)
theorem wi_1338 : Cond.methodLink RX9 172 yX9_isStrip ∈ gw_T := in_gc_13 _ (List.mem_of_getElem? (i := 0) rfl)
theorem wi_1340 : Cond.instanceMethod yX9_isStrip ∈ gw_T := in_gc_13 _ (List.mem_of_getElem? (i := 1) rfl)
theorem wi_1342 : Cond.constantLong RX9 175 (5) ∈ gw_T := in_gc_13 _ (List.mem_of_getElem? (i := 2) rfl)
theorem wi_1366 : Cond.constantLong RX9 180 (3) ∈ gw_T := in_gc_13 _ (List.mem_of_getElem? (i := 3) rfl)
theorem wi_1367 : Cond.methodLink RX9 182 yX9_ofFarm ∈ gw_T := in_gc_13 _ (List.mem_of_getElem? (i := 4) rfl)
theorem wi_1369 : Cond.instanceMethod yX9_ofFarm ∈ gw_T := in_gc_13 _ (List.mem_of_getElem? (i := 5) rfl)
theorem wi_1371 : Cond.methodLink RX9 185 yX9_stripsOf ∈ gw_T := in_gc_13 _ (List.mem_of_getElem? (i := 6) rfl)
theorem wi_1373 : Cond.instanceMethod yX9_stripsOf ∈ gw_T := in_gc_13 _ (List.mem_of_getElem? (i := 7) rfl)
theorem wi_1399 : Cond.methodLink RX9 191 yX9_isSet ∈ gw_T := in_gc_13 _ (List.mem_of_getElem? (i := 8) rfl)
theorem wi_1401 : Cond.instanceMethod yX9_isSet ∈ gw_T := in_gc_13 _ (List.mem_of_getElem? (i := 9) rfl)
theorem wi_1407 : Cond.constantLong RX9 194 (30) ∈ gw_T := in_gc_13 _ (List.mem_of_getElem? (i := 10) rfl)
theorem wi_1416 : Cond.methodLink RX9 202 yX9_refuses ∈ gw_T := in_gc_13 _ (List.mem_of_getElem? (i := 11) rfl)
theorem wi_1418 : Cond.instanceMethod yX9_refuses ∈ gw_T := in_gc_13 _ (List.mem_of_getElem? (i := 12) rfl)
theorem wi_1420 : Cond.constantLong RX9 196 (2) ∈ gw_T := in_gc_13 _ (List.mem_of_getElem? (i := 13) rfl)
theorem wi_1421 : Cond.methodLink RX9 198 yX9_then ∈ gw_T := in_gc_13 _ (List.mem_of_getElem? (i := 14) rfl)
theorem wi_1422 : Cond.static yX9_then ∈ gw_T := in_gc_13 _ (List.mem_of_getElem? (i := 15) rfl)
theorem wi_1452 : Cond.constantLong RX9 225 (99) ∈ gw_T := in_gc_13 _ (List.mem_of_getElem? (i := 16) rfl)
theorem wi_1457 : Cond.constantLong RX9 231 (60) ∈ gw_T := in_gc_13 _ (List.mem_of_getElem? (i := 17) rfl)
theorem wi_1471 : Cond.methodLink RX9 272 yX9_told ∈ gw_T := in_gc_13 _ (List.mem_of_getElem? (i := 18) rfl)
theorem wi_1473 : Cond.instanceMethod yX9_told ∈ gw_T := in_gc_13 _ (List.mem_of_getElem? (i := 19) rfl)
theorem wi_1475 : Cond.constantLong RX9 263 (10) ∈ gw_T := in_gc_14 _ (List.mem_of_getElem? (i := 0) rfl)
theorem wi_1476 : Cond.constantLong RX9 265 (17) ∈ gw_T := in_gc_14 _ (List.mem_of_getElem? (i := 1) rfl)
theorem wi_1477 : Cond.constantLong RX9 267 (8) ∈ gw_T := in_gc_14 _ (List.mem_of_getElem? (i := 2) rfl)
theorem wi_1522 : Cond.constantLong RX9 276 (6) ∈ gw_T := in_gc_14 _ (List.mem_of_getElem? (i := 3) rfl)
theorem wi_1527 : Cond.constantLong RX9 278 (9999) ∈ gw_T := in_gc_14 _ (List.mem_of_getElem? (i := 4) rfl)
theorem wi_1548 : Cond.methodLink RX9 294 yX9_haltsFor ∈ gw_T := in_gc_14 _ (List.mem_of_getElem? (i := 5) rfl)
theorem wi_1550 : Cond.instanceMethod yX9_haltsFor ∈ gw_T := in_gc_14 _ (List.mem_of_getElem? (i := 6) rfl)
theorem wi_1563 : Cond.methodLink RX9 310 yX9_laysStubble ∈ gw_T := in_gc_14 _ (List.mem_of_getElem? (i := 7) rfl)
theorem wi_1565 : Cond.instanceMethod yX9_laysStubble ∈ gw_T := in_gc_14 _ (List.mem_of_getElem? (i := 8) rfl)
theorem wi_1599 : Cond.constantLong RX9 323 (40) ∈ gw_T := in_gc_14 _ (List.mem_of_getElem? (i := 9) rfl)
theorem wi_1604 : Cond.constantLong RX9 325 (-2) ∈ gw_T := in_gc_14 _ (List.mem_of_getElem? (i := 10) rfl)
theorem wi_1605 : Cond.constantLong RX9 327 (-6) ∈ gw_T := in_gc_14 _ (List.mem_of_getElem? (i := 11) rfl)
theorem wi_1626 : Cond.methodLink RX9 335 yX9_sumOf ∈ gw_T := in_gc_14 _ (List.mem_of_getElem? (i := 12) rfl)
theorem wi_1628 : Cond.instanceMethod yX9_sumOf ∈ gw_T := in_gc_14 _ (List.mem_of_getElem? (i := 13) rfl)
theorem wi_146 : Cond.code objectInit ⟨#[0xb1]⟩ 1 none ∈ gw_T := in_gc_15 _ (List.mem_of_getElem? (i := 0) rfl)
theorem wi_151 : Cond.code yX6_init cX6_init 1 none ∈ gw_T := in_gc_15 _ (List.mem_of_getElem? (i := 1) rfl)
theorem wi_157 : Cond.code yX3_init cX3_init 1 none ∈ gw_T := in_gc_15 _ (List.mem_of_getElem? (i := 2) rfl)
theorem wi_162 : Cond.code yX3_empty cX3_empty 1 none ∈ gw_T := in_gc_15 _ (List.mem_of_getElem? (i := 3) rfl)
theorem wi_165 : Cond.code yJ7_fill_53178 cJ7_fill_53178 4 none ∈ gw_T := in_gc_15 _ (List.mem_of_getElem? (i := 4) rfl)
theorem wi_292 : Cond.code yX7_init cX7_init 1 none ∈ gw_T := in_gc_15 _ (List.mem_of_getElem? (i := 5) rfl)
theorem wi_342 : Cond.code yX2_init cX2_init 1 none ∈ gw_T := in_gc_15 _ (List.mem_of_getElem? (i := 6) rfl)
theorem wi_390 : Cond.code yX5_init cX5_init 1 none ∈ gw_T := in_gc_15 _ (List.mem_of_getElem? (i := 7) rfl)
theorem wi_413 : Cond.code yX1_init cX1_init 1 none ∈ gw_T := in_gc_15 _ (List.mem_of_getElem? (i := 8) rfl)
theorem wi_437 : Cond.code yX0_init cX0_init 1 none ∈ gw_T := in_gc_15 _ (List.mem_of_getElem? (i := 9) rfl)
theorem wi_449 : Cond.code yX4_init cX4_init 1 none ∈ gw_T := in_gc_15 _ (List.mem_of_getElem? (i := 10) rfl)
theorem wi_514 : Cond.code yX8_tapeInt cX8_tapeInt 3 none ∈ gw_T := in_gc_15 _ (List.mem_of_getElem? (i := 11) rfl)
theorem wi_522 : Cond.code yX6_readText cX6_readText 4 (some .int) ∈ gw_T := in_gc_16 _ (List.mem_of_getElem? (i := 0) rfl)
theorem wi_525 : Cond.code Lib.Math.min.name Lib.Math.min.code 2 (some .int) ∈ gw_T := in_gc_16 _ (List.mem_of_getElem? (i := 1) rfl)
theorem wi_528 : Cond.code Lib.Math.max.name Lib.Math.max.code 2 (some .int) ∈ gw_T := in_gc_16 _ (List.mem_of_getElem? (i := 2) rfl)
theorem wi_536 : Cond.code yX6_advance cX6_advance 1 none ∈ gw_T := in_gc_16 _ (List.mem_of_getElem? (i := 3) rfl)
theorem wi_540 : Cond.code yX6_endOf cX6_endOf 4 (some .int) ∈ gw_T := in_gc_16 _ (List.mem_of_getElem? (i := 4) rfl)
theorem wi_544 : Cond.code yX6_kindAt cX6_kindAt 3 (some .int) ∈ gw_T := in_gc_16 _ (List.mem_of_getElem? (i := 5) rfl)
theorem wi_646 : Cond.code yX8_isFarm cX8_isFarm 1 (some .boolean) ∈ gw_T := in_gc_16 _ (List.mem_of_getElem? (i := 6) rfl)
theorem wi_656 : Cond.code yX3_become cX3_become 2 none ∈ gw_T := in_gc_16 _ (List.mem_of_getElem? (i := 7) rfl)
theorem wi_669 : Cond.code yX3_hasStrip cX3_hasStrip 2 (some .boolean) ∈ gw_T := in_gc_16 _ (List.mem_of_getElem? (i := 8) rfl)
theorem wi_695 : Cond.code yX3_sumOfFarm cX3_sumOfFarm 5 (some .int) ∈ gw_T := in_gc_16 _ (List.mem_of_getElem? (i := 9) rfl)
theorem wi_699 : Cond.code yX3_stripsOfFarm cX3_stripsOfFarm 4 (some .int) ∈ gw_T := in_gc_16 _ (List.mem_of_getElem? (i := 10) rfl)
theorem wi_736 : Cond.code yX3_areStrips cX3_areStrips 2 (some .boolean) ∈ gw_T := in_gc_16 _ (List.mem_of_getElem? (i := 11) rfl)
theorem wi_740 : Cond.code yX3_allStrips cX3_allStrips 1 (some .int) ∈ gw_T := in_gc_17 _ (List.mem_of_getElem? (i := 0) rfl)
theorem wi_761 : Cond.code yX3_whyNot cX3_whyNot 3 (some .int) ∈ gw_T := in_gc_17 _ (List.mem_of_getElem? (i := 1) rfl)
theorem wi_765 : Cond.code yX3_target cX3_target 5 (some .int) ∈ gw_T := in_gc_17 _ (List.mem_of_getElem? (i := 2) rfl)
theorem wi_779 : Cond.code yX8_isRow cX8_isRow 1 (some .boolean) ∈ gw_T := in_gc_17 _ (List.mem_of_getElem? (i := 3) rfl)
theorem wi_795 : Cond.code yX3_sum cX3_sum 4 (some .int) ∈ gw_T := in_gc_17 _ (List.mem_of_getElem? (i := 4) rfl)
theorem wi_799 : Cond.code yX3_hangsOver cX3_hangsOver 1 (some .int) ∈ gw_T := in_gc_17 _ (List.mem_of_getElem? (i := 5) rfl)
theorem wi_827 : Cond.code yX8_isAskable cX8_isAskable 2 (some .boolean) ∈ gw_T := in_gc_17 _ (List.mem_of_getElem? (i := 6) rfl)
theorem wi_831 : Cond.code yX8_refusedSearch cX8_refusedSearch 4 (some .int) ∈ gw_T := in_gc_17 _ (List.mem_of_getElem? (i := 7) rfl)
theorem wi_1015 : Cond.code yX0_fewest cX0_fewest 5 (some .int) ∈ gw_T := in_gc_17 _ (List.mem_of_getElem? (i := 8) rfl)
theorem wi_1019 : Cond.code yX0_look cX0_look 4 none ∈ gw_T := in_gc_17 _ (List.mem_of_getElem? (i := 9) rfl)
theorem wi_1025 : Cond.code yX0_canLight cX0_canLight 8 (some .boolean) ∈ gw_T := in_gc_17 _ (List.mem_of_getElem? (i := 10) rfl)
theorem wi_1033 : Cond.code yX0_leastBits cX0_leastBits 8 (some .int) ∈ gw_T := in_gc_17 _ (List.mem_of_getElem? (i := 11) rfl)
theorem wi_1050 : Cond.code yX8_refusedStubble cX8_refusedStubble 3 (some .int) ∈ gw_T := in_gc_18 _ (List.mem_of_getElem? (i := 0) rfl)
theorem wi_1084 : Cond.code yX8_refusedMeeting cX8_refusedMeeting 5 (some .int) ∈ gw_T := in_gc_18 _ (List.mem_of_getElem? (i := 1) rfl)
theorem wi_1100 : Cond.code yX4_renew cX4_renew 3 none ∈ gw_T := in_gc_18 _ (List.mem_of_getElem? (i := 2) rfl)
theorem wi_1105 : Cond.code yJ7_fill_d0a16 cJ7_fill_d0a16 5 none ∈ gw_T := in_gc_18 _ (List.mem_of_getElem? (i := 3) rfl)
theorem wi_1146 : Cond.code yX9_plainIn cX9_plainIn 2 none ∈ gw_T := in_gc_18 _ (List.mem_of_getElem? (i := 4) rfl)
theorem wi_1149 : Cond.code yX9_lampIn cX9_lampIn 1 none ∈ gw_T := in_gc_18 _ (List.mem_of_getElem? (i := 5) rfl)
theorem wi_1272 : Cond.code yX9_within cX9_within 6 (some .boolean) ∈ gw_T := in_gc_18 _ (List.mem_of_getElem? (i := 6) rfl)
theorem wi_1276 : Cond.code yX9_next cX9_next 1 none ∈ gw_T := in_gc_18 _ (List.mem_of_getElem? (i := 7) rfl)
theorem wi_1280 : Cond.code yX9_see cX9_see 2 (some .int) ∈ gw_T := in_gc_18 _ (List.mem_of_getElem? (i := 8) rfl)
theorem wi_1341 : Cond.code yX9_isStrip cX9_isStrip 2 (some .boolean) ∈ gw_T := in_gc_18 _ (List.mem_of_getElem? (i := 9) rfl)
theorem wi_1370 : Cond.code yX9_ofFarm cX9_ofFarm 5 (some .int) ∈ gw_T := in_gc_18 _ (List.mem_of_getElem? (i := 10) rfl)
theorem wi_1374 : Cond.code yX9_stripsOf cX9_stripsOf 4 (some .int) ∈ gw_T := in_gc_18 _ (List.mem_of_getElem? (i := 11) rfl)
theorem wi_1402 : Cond.code yX9_isSet cX9_isSet 2 (some .boolean) ∈ gw_T := in_gc_19 _ (List.mem_of_getElem? (i := 0) rfl)
theorem wi_1419 : Cond.code yX9_refuses cX9_refuses 3 (some .int) ∈ gw_T := in_gc_19 _ (List.mem_of_getElem? (i := 1) rfl)
theorem wi_1423 : Cond.code yX9_then cX9_then 3 (some .int) ∈ gw_T := in_gc_19 _ (List.mem_of_getElem? (i := 2) rfl)
theorem wi_1474 : Cond.code yX9_told cX9_told 6 (some .int) ∈ gw_T := in_gc_19 _ (List.mem_of_getElem? (i := 3) rfl)
theorem wi_1551 : Cond.code yX9_haltsFor cX9_haltsFor 6 (some .int) ∈ gw_T := in_gc_19 _ (List.mem_of_getElem? (i := 4) rfl)
theorem wi_1566 : Cond.code yX9_laysStubble cX9_laysStubble 3 (some .int) ∈ gw_T := in_gc_19 _ (List.mem_of_getElem? (i := 5) rfl)
theorem wi_1629 : Cond.code yX9_sumOf cX9_sumOf 4 (some .int) ∈ gw_T := in_gc_19 _ (List.mem_of_getElem? (i := 6) rfl)
theorem fm_in {ws : List Cond} (ps : List Nat) (hp : ws = ps.filterMap (fun i => lw_tbl[i]?)) : ∀ w ∈ ws, w ∈ lw_tbl := by
  intro w hw
  rw [hp] at hw
  obtain ⟨i, -, hi⟩ := List.mem_filterMap.mp hw
  exact List.mem_of_getElem? hi
set_option maxRecDepth 100000 in
theorem lt_gl_0 : ∀ w ∈ gl_0, w ∈ lw_tbl := fm_in [441, 443] (by decide +kernel)
set_option maxRecDepth 100000 in
theorem lt_gl_1 : ∀ w ∈ gl_1, w ∈ lw_tbl := fm_in [422, 424, 426, 428, 430] (by decide +kernel)
set_option maxRecDepth 100000 in
theorem lt_gl_2 : ∀ w ∈ gl_2, w ∈ lw_tbl := fm_in [363, 365, 367, 369, 371, 373, 375, 377, 379, 381, 383] (by decide +kernel)
set_option maxRecDepth 100000 in
theorem lt_gl_3 : ∀ w ∈ gl_3, w ∈ lw_tbl := fm_in [217, 219, 221, 223, 225, 227, 229, 231, 233, 235, 237, 239, 241, 243, 245, 247] (by decide +kernel)
set_option maxRecDepth 100000 in
theorem lt_gl_4 : ∀ w ∈ gl_4, w ∈ lw_tbl := fm_in [458, 460, 462, 464] (by decide +kernel)
set_option maxRecDepth 100000 in
theorem lt_gl_5 : ∀ w ∈ gl_5, w ∈ lw_tbl := fm_in [398, 400, 402, 404, 406] (by decide +kernel)
set_option maxRecDepth 100000 in
theorem lt_gl_6 : ∀ w ∈ gl_6, w ∈ lw_tbl := fm_in [264, 266, 268, 270, 272, 274, 276, 278, 280] (by decide +kernel)
set_option maxRecDepth 100000 in
theorem lt_gl_7 : ∀ w ∈ gl_7, w ∈ lw_tbl := fm_in [313, 315, 317, 319, 321, 323, 325, 327, 329, 331, 333] (by decide +kernel)
set_option maxRecDepth 100000 in
theorem lt_gl_8 : ∀ w ∈ gl_8, w ∈ lw_tbl := fm_in [480, 482, 484, 486, 488, 490, 492, 494, 496, 498, 500, 502, 504] (by decide +kernel)
set_option maxRecDepth 100000 in
theorem lt_gl_9 : ∀ w ∈ gl_9, w ∈ lw_tbl := fm_in [1187, 1189, 1191, 1193, 1195, 1197, 1199, 1201, 1203, 1205, 1207, 1209, 1211, 1213, 1215, 1217, 1219, 1221, 1223, 1225, 1227, 1229, 1231, 1233, 1235, 1237, 1239, 1241, 1243, 1245, 1247, 1249, 1251, 1253, 1255, 1257, 1259] (by decide +kernel)
set_option maxRecDepth 100000 in
theorem lt_gc_0 : ∀ w ∈ gc_0, w ∈ lw_tbl := fm_in [0, 1, 2, 3, 4, 5, 17, 18, 22, 23, 27, 28, 30, 31, 35, 36, 37, 65, 66, 67] (by decide +kernel)
set_option maxRecDepth 100000 in
theorem lt_gc_1 : ∀ w ∈ gc_1, w ∈ lw_tbl := fm_in [68, 73, 75, 78, 79, 90, 95, 96, 98, 99, 105, 113, 114, 119, 121, 122, 123, 124, 125, 126] (by decide +kernel)
set_option maxRecDepth 100000 in
theorem lt_gc_2 : ∀ w ∈ gc_2, w ∈ lw_tbl := fm_in [127, 128, 129, 130, 131, 132, 133, 144, 145, 147, 148, 150, 152, 153, 154, 156, 158, 159, 161, 163] (by decide +kernel)
set_option maxRecDepth 100000 in
theorem lt_gc_3 : ∀ w ∈ gc_3, w ∈ lw_tbl := fm_in [164, 166, 173, 176, 178, 181, 184, 187, 190, 193, 196, 199, 203, 206, 208, 211, 213, 250, 251, 252] (by decide +kernel)
set_option maxRecDepth 100000 in
theorem lt_gc_4 : ∀ w ∈ gc_4, w ∈ lw_tbl := fm_in [254, 256, 258, 259, 260, 261, 262, 263, 283, 286, 288, 289, 291, 293, 294, 299, 300, 302, 303, 307] (by decide +kernel)
set_option maxRecDepth 100000 in
theorem lt_gc_5 : ∀ w ∈ gc_5, w ∈ lw_tbl := fm_in [308, 309, 310, 311, 312, 336, 337, 338, 339, 341, 343, 344, 346, 349, 350, 351, 354, 355, 356, 357] (by decide +kernel)
set_option maxRecDepth 100000 in
theorem lt_gc_6 : ∀ w ∈ gc_6, w ∈ lw_tbl := fm_in [358, 359, 361, 386, 387, 389, 391, 392, 393, 394, 395, 396, 409, 410, 412, 414, 415, 416, 417, 418] (by decide +kernel)
set_option maxRecDepth 100000 in
theorem lt_gc_7 : ∀ w ∈ gc_7, w ∈ lw_tbl := fm_in [420, 433, 434, 436, 438, 439, 440, 446, 448, 450, 451, 453, 454, 457, 467, 468, 469, 470, 471, 472] (by decide +kernel)
set_option maxRecDepth 100000 in
theorem lt_gc_8 : ∀ w ∈ gc_8, w ∈ lw_tbl := fm_in [473, 474, 475, 476, 477, 478, 479, 511, 513, 521, 523, 524, 526, 527, 529, 530, 531, 533, 535, 537] (by decide +kernel)
set_option maxRecDepth 100000 in
theorem lt_gc_9 : ∀ w ∈ gc_9, w ∈ lw_tbl := fm_in [539, 541, 543, 645, 655, 657, 668, 691, 694, 698, 735, 737, 739, 760, 762, 764, 766, 767, 777, 778] (by decide +kernel)
set_option maxRecDepth 100000 in
theorem lt_gc_10 : ∀ w ∈ gc_10, w ∈ lw_tbl := fm_in [794, 798, 808, 825, 826, 828, 830, 1014, 1016, 1018, 1020, 1023, 1024, 1030, 1032, 1047, 1049, 1081, 1083, 1099] (by decide +kernel)
set_option maxRecDepth 100000 in
theorem lt_gc_11 : ∀ w ∈ gc_11, w ∈ lw_tbl := fm_in [1101, 1102, 1103, 1104, 1110, 1111, 1143, 1144, 1145, 1147, 1148, 1150, 1151, 1152, 1153, 1154, 1155, 1156, 1157, 1158] (by decide +kernel)
set_option maxRecDepth 100000 in
theorem lt_gc_12 : ∀ w ∈ gc_12, w ∈ lw_tbl := fm_in [1159, 1161, 1163, 1164, 1165, 1166, 1170, 1171, 1172, 1178, 1180, 1184, 1185, 1186, 1270, 1271, 1273, 1275, 1277, 1279] (by decide +kernel)
set_option maxRecDepth 100000 in
theorem lt_gc_13 : ∀ w ∈ gc_13, w ∈ lw_tbl := fm_in [1338, 1340, 1342, 1366, 1367, 1369, 1371, 1373, 1399, 1401, 1407, 1416, 1418, 1420, 1421, 1422, 1452, 1457, 1471, 1473] (by decide +kernel)
set_option maxRecDepth 100000 in
theorem lt_gc_14 : ∀ w ∈ gc_14, w ∈ lw_tbl := fm_in [1475, 1476, 1477, 1522, 1527, 1548, 1550, 1563, 1565, 1599, 1604, 1605, 1626, 1628] (by decide +kernel)
set_option maxRecDepth 100000 in
theorem lt_gc_15 : ∀ w ∈ gc_15, w ∈ lw_tbl := fm_in [146, 151, 157, 162, 165, 292, 342, 390, 413, 437, 449, 514] rfl
set_option maxRecDepth 100000 in
theorem lt_gc_16 : ∀ w ∈ gc_16, w ∈ lw_tbl := fm_in [522, 525, 528, 536, 540, 544, 646, 656, 669, 695, 699, 736] rfl
set_option maxRecDepth 100000 in
theorem lt_gc_17 : ∀ w ∈ gc_17, w ∈ lw_tbl := fm_in [740, 761, 765, 779, 795, 799, 827, 831, 1015, 1019, 1025, 1033] rfl
set_option maxRecDepth 100000 in
theorem lt_gc_18 : ∀ w ∈ gc_18, w ∈ lw_tbl := fm_in [1050, 1084, 1100, 1105, 1146, 1149, 1272, 1276, 1280, 1341, 1370, 1374] rfl
set_option maxRecDepth 100000 in
theorem lt_gc_19 : ∀ w ∈ gc_19, w ∈ lw_tbl := fm_in [1402, 1419, 1423, 1474, 1551, 1566, 1629] rfl
theorem gw_in : ∀ w ∈ gw_T, w ∈ lw_tbl := List.forall_mem_append.mpr ⟨lt_gl_0, List.forall_mem_append.mpr ⟨lt_gl_1, List.forall_mem_append.mpr ⟨lt_gl_2, List.forall_mem_append.mpr ⟨lt_gl_3, List.forall_mem_append.mpr ⟨lt_gl_4, List.forall_mem_append.mpr ⟨lt_gl_5, List.forall_mem_append.mpr ⟨lt_gl_6, List.forall_mem_append.mpr ⟨lt_gl_7, List.forall_mem_append.mpr ⟨lt_gl_8, List.forall_mem_append.mpr ⟨lt_gl_9, List.forall_mem_append.mpr ⟨lt_gc_0, List.forall_mem_append.mpr ⟨lt_gc_1, List.forall_mem_append.mpr ⟨lt_gc_2, List.forall_mem_append.mpr ⟨lt_gc_3, List.forall_mem_append.mpr ⟨lt_gc_4, List.forall_mem_append.mpr ⟨lt_gc_5, List.forall_mem_append.mpr ⟨lt_gc_6, List.forall_mem_append.mpr ⟨lt_gc_7, List.forall_mem_append.mpr ⟨lt_gc_8, List.forall_mem_append.mpr ⟨lt_gc_9, List.forall_mem_append.mpr ⟨lt_gc_10, List.forall_mem_append.mpr ⟨lt_gc_11, List.forall_mem_append.mpr ⟨lt_gc_12, List.forall_mem_append.mpr ⟨lt_gc_13, List.forall_mem_append.mpr ⟨lt_gc_14, List.forall_mem_append.mpr ⟨lt_gc_15, List.forall_mem_append.mpr ⟨lt_gc_16, List.forall_mem_append.mpr ⟨lt_gc_17, List.forall_mem_append.mpr ⟨lt_gc_18, lt_gc_19⟩⟩⟩⟩⟩⟩⟩⟩⟩⟩⟩⟩⟩⟩⟩⟩⟩⟩⟩⟩⟩⟩⟩⟩⟩⟩⟩⟩⟩
def gn_T : List Cond := [Cond.methodLinkNest RX8 19 yX6_init RX8, Cond.methodLinkNest RX6 11 yX3_init RX8, Cond.fieldLinkNest RX0 28 "RopeMoon$Plain" "strips" "I" RX8, Cond.fieldLinkNest RX8 161 "RopeMoon$Plain" "strips" "I" RX8, Cond.fieldLinkNest RX8 99 "RopeMoon$Plain" "lines" "I" RX8, Cond.fieldLinkNest RX8 216 "RopeMoon$Plain" "minute" "I" RX8, Cond.fieldLinkNest RX8 167 "RopeMoon$Plain" "rope" "I" RX8, Cond.fieldLinkNest RX8 340 "RopeMoon$Plain" "power" "I" RX8, Cond.fieldLinkNest RX8 343 "RopeMoon$Plain" "fade" "I" RX8, Cond.fieldLinkNest RX8 208 "RopeMoon$Plain" "oil" "I" RX8, Cond.fieldLinkNest RX8 222 "RopeMoon$Plain" "moths" "I" RX8, Cond.fieldLinkNest RX8 346 "RopeMoon$Plain" "crossing" "I" RX8, Cond.fieldLinkNest RX8 112 "RopeMoon$Plain" "crops" "[I" RX8, Cond.fieldLinkNest RX8 125 "RopeMoon$Plain" "reaped" "[I" RX8, Cond.fieldLinkNest RX8 142 "RopeMoon$Plain" "bids" "[I" RX8, Cond.fieldLinkNest RX8 92 "RopeMoon$TextReader" "told" "LRopeMoon$Plain;" RX8, Cond.fieldLinkNest RX8 102 "RopeMoon$TextReader" "faultKind" "I" RX8, Cond.fieldLinkNest RX8 105 "RopeMoon$TextReader" "faultPlace" "I" RX8, Cond.methodLinkNest RX8 26 yX3_init RX8, Cond.methodLinkNest RX8 50 yX7_init RX8, Cond.methodLinkNest RX8 57 yX2_init RX8, Cond.methodLinkNest RX2 11 yX3_init RX8, Cond.methodLinkNest RX8 64 yX5_init RX8, Cond.methodLinkNest RX8 71 yX1_init RX8, Cond.methodLinkNest RX8 78 yX0_init RX8, Cond.methodLinkNest RX8 83 yX4_init RX8, Cond.fieldLinkNest RX8 185 "RopeMoon$Row" "missing" "Z" RX8, Cond.methodLinkNest RX8 88 yX6_readText RX8, Cond.methodLinkNest RX6 59 yX3_empty RX8, Cond.methodLinkNest RX8 95 yX3_become RX8, Cond.methodLinkNest RX8 108 yX3_hasStrip RX8, Cond.methodLinkNest RX8 138 yX3_sumOfFarm RX8, Cond.methodLinkNest RX8 145 yX3_stripsOfFarm RX8, Cond.methodLinkNest RX8 158 yX3_areStrips RX8, Cond.methodLinkNest RX8 170 yX3_whyNot RX8, Cond.methodLinkNest RX8 200 yX3_sum RX8, Cond.methodLinkNest RX8 204 yX3_hangsOver RX8, Cond.methodLinkNest RX8 284 yX3_allStrips RX8, Cond.methodLinkNest RX8 291 yX0_fewest RX8, Cond.methodLinkNest RX0 22 yX3_allStrips RX8, Cond.methodLinkNest RX8 326 yX4_renew RX8]
theorem ni_149 : Cond.methodLinkNest RX8 19 yX6_init RX8 ∈ gn_T := List.mem_of_getElem? (i := 0) rfl
theorem ni_155 : Cond.methodLinkNest RX6 11 yX3_init RX8 ∈ gn_T := List.mem_of_getElem? (i := 1) rfl
theorem ni_168 : Cond.fieldLinkNest RX0 28 "RopeMoon$Plain" "strips" "I" RX8 ∈ gn_T := List.mem_of_getElem? (i := 2) rfl
theorem ni_172 : Cond.fieldLinkNest RX8 161 "RopeMoon$Plain" "strips" "I" RX8 ∈ gn_T := List.mem_of_getElem? (i := 3) rfl
theorem ni_174 : Cond.fieldLinkNest RX8 99 "RopeMoon$Plain" "lines" "I" RX8 ∈ gn_T := List.mem_of_getElem? (i := 4) rfl
theorem ni_177 : Cond.fieldLinkNest RX8 216 "RopeMoon$Plain" "minute" "I" RX8 ∈ gn_T := List.mem_of_getElem? (i := 5) rfl
theorem ni_183 : Cond.fieldLinkNest RX8 167 "RopeMoon$Plain" "rope" "I" RX8 ∈ gn_T := List.mem_of_getElem? (i := 6) rfl
theorem ni_186 : Cond.fieldLinkNest RX8 340 "RopeMoon$Plain" "power" "I" RX8 ∈ gn_T := List.mem_of_getElem? (i := 7) rfl
theorem ni_189 : Cond.fieldLinkNest RX8 343 "RopeMoon$Plain" "fade" "I" RX8 ∈ gn_T := List.mem_of_getElem? (i := 8) rfl
theorem ni_192 : Cond.fieldLinkNest RX8 208 "RopeMoon$Plain" "oil" "I" RX8 ∈ gn_T := List.mem_of_getElem? (i := 9) rfl
theorem ni_195 : Cond.fieldLinkNest RX8 222 "RopeMoon$Plain" "moths" "I" RX8 ∈ gn_T := List.mem_of_getElem? (i := 10) rfl
theorem ni_198 : Cond.fieldLinkNest RX8 346 "RopeMoon$Plain" "crossing" "I" RX8 ∈ gn_T := List.mem_of_getElem? (i := 11) rfl
theorem ni_202 : Cond.fieldLinkNest RX8 112 "RopeMoon$Plain" "crops" "[I" RX8 ∈ gn_T := List.mem_of_getElem? (i := 12) rfl
theorem ni_212 : Cond.fieldLinkNest RX8 125 "RopeMoon$Plain" "reaped" "[I" RX8 ∈ gn_T := List.mem_of_getElem? (i := 13) rfl
theorem ni_216 : Cond.fieldLinkNest RX8 142 "RopeMoon$Plain" "bids" "[I" RX8 ∈ gn_T := List.mem_of_getElem? (i := 14) rfl
theorem ni_253 : Cond.fieldLinkNest RX8 92 "RopeMoon$TextReader" "told" "LRopeMoon$Plain;" RX8 ∈ gn_T := List.mem_of_getElem? (i := 15) rfl
theorem ni_255 : Cond.fieldLinkNest RX8 102 "RopeMoon$TextReader" "faultKind" "I" RX8 ∈ gn_T := List.mem_of_getElem? (i := 16) rfl
theorem ni_257 : Cond.fieldLinkNest RX8 105 "RopeMoon$TextReader" "faultPlace" "I" RX8 ∈ gn_T := List.mem_of_getElem? (i := 17) rfl
theorem ni_284 : Cond.methodLinkNest RX8 26 yX3_init RX8 ∈ gn_T := List.mem_of_getElem? (i := 18) rfl
theorem ni_290 : Cond.methodLinkNest RX8 50 yX7_init RX8 ∈ gn_T := List.mem_of_getElem? (i := 19) rfl
theorem ni_340 : Cond.methodLinkNest RX8 57 yX2_init RX8 ∈ gn_T := List.mem_of_getElem? (i := 20) rfl
theorem ni_345 : Cond.methodLinkNest RX2 11 yX3_init RX8 ∈ gn_T := List.mem_of_getElem? (i := 21) rfl
theorem ni_388 : Cond.methodLinkNest RX8 64 yX5_init RX8 ∈ gn_T := List.mem_of_getElem? (i := 22) rfl
theorem ni_411 : Cond.methodLinkNest RX8 71 yX1_init RX8 ∈ gn_T := List.mem_of_getElem? (i := 23) rfl
theorem ni_435 : Cond.methodLinkNest RX8 78 yX0_init RX8 ∈ gn_T := List.mem_of_getElem? (i := 24) rfl
theorem ni_447 : Cond.methodLinkNest RX8 83 yX4_init RX8 ∈ gn_T := List.mem_of_getElem? (i := 25) rfl
theorem ni_452 : Cond.fieldLinkNest RX8 185 "RopeMoon$Row" "missing" "Z" RX8 ∈ gn_T := List.mem_of_getElem? (i := 26) rfl
theorem ni_519 : Cond.methodLinkNest RX8 88 yX6_readText RX8 ∈ gn_T := List.mem_of_getElem? (i := 27) rfl
theorem ni_532 : Cond.methodLinkNest RX6 59 yX3_empty RX8 ∈ gn_T := List.mem_of_getElem? (i := 28) rfl
theorem ni_653 : Cond.methodLinkNest RX8 95 yX3_become RX8 ∈ gn_T := List.mem_of_getElem? (i := 29) rfl
theorem ni_666 : Cond.methodLinkNest RX8 108 yX3_hasStrip RX8 ∈ gn_T := List.mem_of_getElem? (i := 30) rfl
theorem ni_692 : Cond.methodLinkNest RX8 138 yX3_sumOfFarm RX8 ∈ gn_T := List.mem_of_getElem? (i := 31) rfl
theorem ni_696 : Cond.methodLinkNest RX8 145 yX3_stripsOfFarm RX8 ∈ gn_T := List.mem_of_getElem? (i := 32) rfl
theorem ni_733 : Cond.methodLinkNest RX8 158 yX3_areStrips RX8 ∈ gn_T := List.mem_of_getElem? (i := 33) rfl
theorem ni_758 : Cond.methodLinkNest RX8 170 yX3_whyNot RX8 ∈ gn_T := List.mem_of_getElem? (i := 34) rfl
theorem ni_792 : Cond.methodLinkNest RX8 200 yX3_sum RX8 ∈ gn_T := List.mem_of_getElem? (i := 35) rfl
theorem ni_796 : Cond.methodLinkNest RX8 204 yX3_hangsOver RX8 ∈ gn_T := List.mem_of_getElem? (i := 36) rfl
theorem ni_987 : Cond.methodLinkNest RX8 284 yX3_allStrips RX8 ∈ gn_T := List.mem_of_getElem? (i := 37) rfl
theorem ni_1012 : Cond.methodLinkNest RX8 291 yX0_fewest RX8 ∈ gn_T := List.mem_of_getElem? (i := 38) rfl
theorem ni_1022 : Cond.methodLinkNest RX0 22 yX3_allStrips RX8 ∈ gn_T := List.mem_of_getElem? (i := 39) rfl
theorem ni_1097 : Cond.methodLinkNest RX8 326 yX4_renew RX8 ∈ gn_T := List.mem_of_getElem? (i := 40) rfl
set_option maxRecDepth 100000 in
theorem gn_in : ∀ w ∈ gn_T, w ∈ lw_tbl := by
  have hp : gn_T = ([149, 155, 168, 172, 174, 177, 183, 186, 189, 192, 195, 198, 202, 212, 216, 253, 255, 257, 284, 290, 340, 345, 388, 411, 435, 447, 452, 519, 532, 653, 666, 692, 696, 733, 758, 792, 796, 987, 1012, 1022, 1097] : List Nat).filterMap (fun i => lw_tbl[i]?) := by decide +kernel
  intro w hw
  rw [hp] at hw
  obtain ⟨i, -, hi⟩ := List.mem_filterMap.mp hw
  exact List.mem_of_getElem? hi
