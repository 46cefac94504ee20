abbrev gl_0 : List Cond := u_ws RX0 TX0 2
abbrev gl_1 : List Cond := u_ws RX1 TX1 5
abbrev gl_2 : List Cond := u_ws RX2 TX2 11
abbrev gl_3 : List Cond := u_ws RX3 TX3 16
abbrev gl_4 : List Cond := u_ws RX4 TX4 4
abbrev gl_5 : List Cond := u_ws RX5 TX5 5
abbrev gl_6 : List Cond := u_ws RX6 TX6 9
abbrev gl_7 : List Cond := u_ws RX7 TX7 11
abbrev gl_8 : List Cond := u_ws RX8 TX8 13
abbrev gl_9 : List Cond := u_ws RX9 TX9 37
def gc_0 : List Cond := [Cond.selects RX3 yX3_empty yX3_empty, Cond.selects RX8 yX8_tapeInt yX8_tapeInt, Cond.selects RX6 yX6_readText yX6_readText, Cond.selects RX6 yX6_advance yX6_advance, Cond.selects RX6 yX6_endOf yX6_endOf, Cond.selects RX6 yX6_kindAt yX6_kindAt, Cond.selects RX6 yX6_readValue yX6_readValue, Cond.selects RX6 yX6_readLine yX6_readLine, Cond.selects RX6 yX6_isWord yX6_isWord, Cond.selects RX6 yX6_readStrip yX6_readStrip, Cond.selects RX6 yX6_refuse yX6_refuse, Cond.selects RX6 yX6_takeNumber yX6_takeNumber, Cond.selects RX6 yX6_takeWord yX6_takeWord, Cond.selects RX3 yX3_addStrip yX3_addStrip, Cond.selects RX6 yX6_readLamp yX6_readLamp, Cond.selects RX6 yX6_readBid yX6_readBid, Cond.selects RX6 yX6_endLine yX6_endLine, Cond.selects RX3 yX3_become yX3_become, Cond.selects RX3 yX3_hasStrip yX3_hasStrip, Cond.selects RX3 yX3_lightOf yX3_lightOf]
def gc_1 : List Cond := [Cond.selects RX3 yX3_unshadedLight yX3_unshadedLight, Cond.selects RX3 yX3_isShaded yX3_isShaded, Cond.selects RX3 yX3_sumOfFarm yX3_sumOfFarm, Cond.selects RX3 yX3_stripsOfFarm yX3_stripsOfFarm, Cond.selects RX3 yX3_litFrom yX3_litFrom, Cond.selects RX3 yX3_shadedFrom yX3_shadedFrom, Cond.selects RX3 yX3_leastHeight yX3_leastHeight, Cond.selects RX3 yX3_areStrips yX3_areStrips, Cond.selects RX3 yX3_allStrips yX3_allStrips, Cond.selects RX3 yX3_leastHeightForAll yX3_leastHeightForAll, Cond.selects RX3 yX3_whyNot yX3_whyNot, Cond.selects RX3 yX3_target yX3_target, Cond.selects RX3 yX3_pass yX3_pass, Cond.selects RX3 yX3_passAll yX3_passAll, Cond.selects RX4 yX4_valueAt yX4_valueAt, Cond.selects RX3 yX3_sum yX3_sum, Cond.selects RX3 yX3_hangsOver yX3_hangsOver, Cond.selects RX8 yX8_refusedSearch yX8_refusedSearch, Cond.selects RX8 yX8_possibleMinutes yX8_possibleMinutes, Cond.selects RX8 yX8_seek yX8_seek]
def gc_2 : List Cond := [Cond.selects RX7 yX7_lay yX7_lay, Cond.selects RX7 yX7_begin yX7_begin, Cond.selects RX7 yX7_layMinute yX7_layMinute, Cond.selects RX7 yX7_end yX7_end, Cond.selects RX7 yX7_first yX7_first, Cond.selects RX7 yX7_arrive yX7_arrive, Cond.selects RX7 yX7_append yX7_append, Cond.selects RX2 yX2_prepare yX2_prepare, Cond.selects RX2 yX2_weightOf yX2_weightOf, Cond.selects RX2 yX2_fillCaps yX2_fillCaps, Cond.selects RX2 yX2_firstWorth yX2_firstWorth, Cond.selects RX2 yX2_seekBest yX2_seekBest, Cond.selects RX2 yX2_open yX2_open, Cond.selects RX2 yX2_couldBeWorth yX2_couldBeWorth, Cond.selects RX2 yX2_fairScore yX2_fairScore, Cond.selects RX2 yX2_cutOf yX2_cutOf, Cond.selects RX2 yX2_weighedScore yX2_weighedScore, Cond.selects RX8 yX8_foundAnswer yX8_foundAnswer, Cond.selects RX7 yX7_moveOf yX7_moveOf, Cond.selects RX2 yX2_bidsOf yX2_bidsOf]
def gc_3 : List Cond := [Cond.selects RX5 yX5_seekAll yX5_seekAll, Cond.selects RX5 yX5_weigh yX5_weigh, Cond.selects RX8 yX8_canShift yX8_canShift, Cond.selects RX1 yX1_countUnlike yX1_countUnlike, Cond.selects RX1 yX1_keep yX1_keep, Cond.selects RX0 yX0_fewest yX0_fewest, Cond.selects RX0 yX0_look yX0_look, Cond.selects RX0 yX0_leastBits yX0_leastBits, Cond.selects RX8 yX8_refusedStubble yX8_refusedStubble, Cond.selects RX8 yX8_explain yX8_explain, Cond.selects RX1 yX1_explainNothing yX1_explainNothing, Cond.selects RX1 yX1_explain yX1_explain, Cond.selects RX2 yX2_stripsHungOver yX2_stripsHungOver, Cond.selects RX8 yX8_refusedMeeting yX8_refusedMeeting, Cond.selects RX8 yX8_firstMeeting yX8_firstMeeting, Cond.selects RX4 yX4_renew yX4_renew, Cond.selects RX4 yX4_put yX4_put, Cond.selects RX4 yX4_cut yX4_cut, Cond.selects RX9 yX9_next yX9_next, Cond.selects RX9 yX9_see yX9_see]
def gc_4 : List Cond := [Cond.selects RX9 yX9_keyAt yX9_keyAt, Cond.selects RX9 yX9_readLine yX9_readLine, Cond.selects RX9 yX9_is yX9_is, Cond.selects RX9 yX9_readStrip yX9_readStrip, Cond.selects RX9 yX9_fails yX9_fails, Cond.selects RX9 yX9_takes yX9_takes, Cond.selects RX9 yX9_takesIf yX9_takesIf, Cond.selects RX9 yX9_eats yX9_eats, Cond.selects RX9 yX9_readLamp yX9_readLamp, Cond.selects RX9 yX9_readBid yX9_readBid, Cond.selects RX9 yX9_isStrip yX9_isStrip, Cond.selects RX9 yX9_lightOf yX9_lightOf, Cond.selects RX9 yX9_lightBy yX9_lightBy, Cond.selects RX9 yX9_isShaded yX9_isShaded, Cond.selects RX9 yX9_nearness yX9_nearness, Cond.selects RX9 yX9_ofFarm yX9_ofFarm, Cond.selects RX9 yX9_stripsOf yX9_stripsOf, Cond.selects RX9 yX9_litBy yX9_litBy, Cond.selects RX9 yX9_isSet yX9_isSet, Cond.selects RX9 yX9_refuses yX9_refuses]
def gc_5 : List Cond := [Cond.selects RX9 yX9_goes yX9_goes, Cond.selects RX9 yX9_keeps yX9_keeps, Cond.selects RX9 yX9_movesOf yX9_movesOf, Cond.selects RX9 yX9_isAgain yX9_isAgain, Cond.selects RX9 yX9_draw yX9_draw, Cond.selects RX9 yX9_told yX9_told, Cond.selects RX9 yX9_laysBest yX9_laysBest, Cond.selects RX9 yX9_minutesOf yX9_minutesOf, Cond.selects RX9 yX9_seeks yX9_seeks, Cond.selects RX9 yX9_firstWorth yX9_firstWorth, Cond.selects RX9 yX9_total yX9_total, Cond.selects RX9 yX9_gathers yX9_gathers, Cond.selects RX9 yX9_isMet yX9_isMet, Cond.selects RX9 yX9_haltsFor yX9_haltsFor, Cond.selects RX9 yX9_laysStubble yX9_laysStubble, Cond.selects RX9 yX9_explains yX9_explains, Cond.selects RX9 yX9_canWalk yX9_canWalk, Cond.selects RX9 yX9_isOther yX9_isOther, Cond.selects RX9 yX9_meetBy yX9_meetBy, Cond.selects RX9 yX9_sumOf yX9_sumOf]
def gc_6 : List Cond := [Cond.initialized RL, Cond.initialized RX8, Cond.initialized RX6, Cond.initialized RX3, Cond.initialized RJ7, Cond.initialized RX7, Cond.initialized RX2, Cond.initialized RX5, Cond.initialized RX1, Cond.initialized RX0, Cond.initialized RX4, Cond.initialized RX9, Cond.initialized "java/lang/Math", Cond.initialized "java/lang/System", Cond.initialized "java/lang/String", Cond.initialized "java/lang/StringLatin1", Cond.initialized "jdk/internal/util/Preconditions", Cond.initialized "java/lang/StringUTF16", Cond.initialized "java/lang/Integer", Cond.classLink RL 7 RX8]
def gc_7 : List Cond := [Cond.instantiable RX8 13, Cond.methodLink RL 9 yX8_init, Cond.instanceMethod yX8_init, Cond.methodLink RX8 1 objectInit, Cond.instanceMethod objectInit, Cond.classLink RX8 17 RX6, Cond.instantiable RX6 9, Cond.instanceMethod yX6_init, Cond.methodLink RX6 3 objectInit, Cond.classLink RX6 9 RX3, Cond.instantiable RX3 16, Cond.instanceMethod yX3_init, Cond.methodLink RX3 3 objectInit, Cond.methodLink RX3 30 yX3_empty, Cond.instanceMethod yX3_empty, Cond.methodLink RX3 64 yJ7_fill_53178, Cond.static yJ7_fill_53178, Cond.fieldLink RX3 33 "RopeMoon$Plain" "strips" "I", Cond.fieldLink RX3 37 "RopeMoon$Plain" "lines" "I", Cond.fieldLink RX3 40 "RopeMoon$Plain" "minute" "I"]
def gc_8 : List Cond := [Cond.fieldLink RX3 43 "RopeMoon$Plain" "at" "I", Cond.fieldLink RX3 46 "RopeMoon$Plain" "rope" "I", Cond.fieldLink RX3 49 "RopeMoon$Plain" "power" "I", Cond.fieldLink RX3 52 "RopeMoon$Plain" "fade" "I", Cond.fieldLink RX3 55 "RopeMoon$Plain" "oil" "I", Cond.fieldLink RX3 58 "RopeMoon$Plain" "moths" "I", Cond.fieldLink RX3 61 "RopeMoon$Plain" "crossing" "I", Cond.fieldLink RX3 9 "RopeMoon$Plain" "crops" "[I", Cond.fieldLink RX3 15 "RopeMoon$Plain" "reapers" "[I", Cond.fieldLink RX3 18 "RopeMoon$Plain" "trees" "[I", Cond.fieldLink RX3 21 "RopeMoon$Plain" "farms" "[I", Cond.fieldLink RX3 24 "RopeMoon$Plain" "reaped" "[I", Cond.fieldLink RX3 27 "RopeMoon$Plain" "bids" "[I", Cond.arrayClass .byte, Cond.arrayClass .int, Cond.fieldLink RX6 12 "RopeMoon$TextReader" "told" "LRopeMoon$Plain;", Cond.fieldLink RX6 18 "RopeMoon$TextReader" "faultKind" "I", Cond.fieldLink RX6 22 "RopeMoon$TextReader" "faultPlace" "I", Cond.fieldLink RX6 25 "RopeMoon$TextReader" "text" "[B", Cond.fieldLink RX6 29 "RopeMoon$TextReader" "length" "I"]
def gc_9 : List Cond := [Cond.fieldLink RX6 32 "RopeMoon$TextReader" "start" "I", Cond.fieldLink RX6 35 "RopeMoon$TextReader" "next" "I", Cond.fieldLink RX6 38 "RopeMoon$TextReader" "token" "I", Cond.fieldLink RX6 41 "RopeMoon$TextReader" "value" "I", Cond.classLink RX8 24 RX3, Cond.classLink RX8 42 RX4, Cond.classLink RX8 48 RX7, Cond.instantiable RX7 11, Cond.instanceMethod yX7_init, Cond.methodLink RX7 3 objectInit, Cond.fieldLink RX7 11 "RopeMoon$Walks" "hangs" "[J", Cond.fieldLink RX7 15 "RopeMoon$Walks" "places" "[I", Cond.fieldLink RX7 19 "RopeMoon$Walks" "ways" "[I", Cond.fieldLink RX7 22 "RopeMoon$Walks" "moves" "[I", Cond.fieldLink RX7 25 "RopeMoon$Walks" "twin" "[Z", Cond.fieldLink RX7 29 "RopeMoon$Walks" "slots" "[I", Cond.fieldLink RX7 32 "RopeMoon$Walks" "starts" "[I", Cond.fieldLink RX7 35 "RopeMoon$Walks" "strips" "I", Cond.fieldLink RX7 39 "RopeMoon$Walks" "from" "I", Cond.fieldLink RX7 42 "RopeMoon$Walks" "laid" "I"]
def gc_10 : List Cond := [Cond.fieldLink RX7 45 "RopeMoon$Walks" "size" "I", Cond.arrayClass .boolean, Cond.arrayClass .long, Cond.classLink RX8 55 RX2, Cond.instantiable RX2 11, Cond.instanceMethod yX2_init, Cond.methodLink RX2 3 objectInit, Cond.classLink RX2 9 RX3, Cond.fieldLink RX2 12 "RopeMoon$Harvest" "over" "LRopeMoon$Plain;", Cond.fieldLink RX2 18 "RopeMoon$Harvest" "goal" "I", Cond.fieldLink RX2 22 "RopeMoon$Harvest" "weights" "[I", Cond.fieldLink RX2 26 "RopeMoon$Harvest" "caps" "[I", Cond.fieldLink RX2 29 "RopeMoon$Harvest" "firstWorths" "[I", Cond.fieldLink RX2 32 "RopeMoon$Harvest" "farmGot" "[I", Cond.fieldLink RX2 35 "RopeMoon$Harvest" "hungOver" "[I", Cond.fieldLink RX2 38 "RopeMoon$Harvest" "hungTimes" "[I", Cond.fieldLink RX2 41 "RopeMoon$Harvest" "hung" "I", Cond.fieldLink RX2 44 "RopeMoon$Harvest" "bestScore" "I", Cond.fieldLink RX2 47 "RopeMoon$Harvest" "bestState" "I", Cond.classLink RX8 62 RX5]
def gc_11 : List Cond := [Cond.instantiable RX5 5, Cond.instanceMethod yX5_init, Cond.methodLink RX5 3 objectInit, Cond.fieldLink RX5 9 "RopeMoon$Shifts" "fewerCaps" "[I", Cond.fieldLink RX5 15 "RopeMoon$Shifts" "moreCaps" "[I", Cond.fieldLink RX5 18 "RopeMoon$Shifts" "without" "[I", Cond.fieldLink RX5 21 "RopeMoon$Shifts" "with" "[I", Cond.fieldLink RX5 24 "RopeMoon$Shifts" "mostSheaves" "[I", Cond.classLink RX8 69 RX1, Cond.instantiable RX1 5, Cond.instanceMethod yX1_init, Cond.methodLink RX1 3 objectInit, Cond.fieldLink RX1 11 "RopeMoon$Ends" "lowCrops" "[J", Cond.fieldLink RX1 15 "RopeMoon$Ends" "highCrops" "[J", Cond.fieldLink RX1 18 "RopeMoon$Ends" "unlike" "I", Cond.fieldLink RX1 22 "RopeMoon$Ends" "explained" "I", Cond.fieldLink RX1 25 "RopeMoon$Ends" "sureStrips" "I", Cond.classLink RX8 76 RX0, Cond.instantiable RX0 2, Cond.instanceMethod yX0_init]
def gc_12 : List Cond := [Cond.methodLink RX0 3 objectInit, Cond.fieldLink RX0 9 "RopeMoon$Cover" "litFrom" "[I", Cond.fieldLink RX0 15 "RopeMoon$Cover" "lightersOf" "[I", Cond.instantiable RX4 4, Cond.instanceMethod yX4_init, Cond.methodLink RX4 3 objectInit, Cond.fieldLink RX4 9 "RopeMoon$Row" "missing" "Z", Cond.fieldLink RX4 15 "RopeMoon$Row" "sort" "I", Cond.fieldLink RX4 19 "RopeMoon$Row" "size" "I", Cond.fieldLink RX4 22 "RopeMoon$Row" "values" "[J", Cond.fieldLink RX8 9 "RopeMoon" "tape" "[B", Cond.fieldLink RX8 13 "RopeMoon" "tapeSize" "I", Cond.fieldLink RX8 20 "RopeMoon" "reader" "LRopeMoon$TextReader;", Cond.fieldLink RX8 27 "RopeMoon" "field" "LRopeMoon$Plain;", Cond.fieldLink RX8 31 "RopeMoon" "trial" "LRopeMoon$Plain;", Cond.fieldLink RX8 34 "RopeMoon" "images" "[LRopeMoon$Plain;", Cond.fieldLink RX8 38 "RopeMoon" "imageMade" "[Z", Cond.fieldLink RX8 44 "RopeMoon" "rows" "[LRopeMoon$Row;", Cond.fieldLink RX8 51 "RopeMoon" "walks" "LRopeMoon$Walks;", Cond.fieldLink RX8 58 "RopeMoon" "harvest" "LRopeMoon$Harvest;"]
def gc_13 : List Cond := [Cond.fieldLink RX8 65 "RopeMoon" "shifts" "LRopeMoon$Shifts;", Cond.fieldLink RX8 72 "RopeMoon" "endings" "LRopeMoon$Ends;", Cond.fieldLink RX8 79 "RopeMoon" "cover" "LRopeMoon$Cover;", Cond.methodLink RL 13 yX8_feed, Cond.instanceMethod yX8_feed, Cond.selects RX8 yX8_feed yX8_feed, Cond.methodLink RX8 84 yX8_tapeInt, Cond.instanceMethod yX8_tapeInt, Cond.methodLink RL 18 yX8_plain, Cond.instanceMethod yX8_plain, Cond.selects RX8 yX8_plain yX8_plain, Cond.instanceMethod yX6_readText, Cond.methodLink RX6 44 Lib.Math.min.name, Cond.static Lib.Math.min.name, Cond.methodLink RX6 50 Lib.Math.max.name, Cond.static Lib.Math.max.name, Cond.methodLink RX6 53 arraycopyName, Cond.static arraycopyName, Cond.native arraycopyName, Cond.methodLink RX6 62 yX6_advance]
def gc_14 : List Cond := [Cond.instanceMethod yX6_advance, Cond.methodLink RX6 163 yX6_endOf, Cond.instanceMethod yX6_endOf, Cond.methodLink RX6 166 yX6_kindAt, Cond.instanceMethod yX6_kindAt, Cond.methodLink RX6 170 yX6_readValue, Cond.instanceMethod yX6_readValue, Cond.methodLink RX6 65 yX6_readLine, Cond.instanceMethod yX6_readLine, Cond.methodLink RX6 70 yX6_isWord, Cond.instanceMethod yX6_isWord, Cond.methodLink RX6 154 yJ0_length_8abf5, Cond.instanceMethod yJ0_length_8abf5, Cond.selects "java/lang/String" yJ0_length_8abf5 yJ0_length_8abf5, Cond.methodLink "java/lang/String" 335 yJ0_coder_7d493, Cond.instanceMethod yJ0_coder_7d493, Cond.selects "java/lang/String" yJ0_coder_7d493 yJ0_coder_7d493, Cond.fieldLink "java/lang/String" 38 "java/lang/String" "COMPACT_STRINGS" "Z", Cond.methodLink RX6 159 yJ0_charAt_5068e, Cond.instanceMethod yJ0_charAt_5068e]
def gc_15 : List Cond := [Cond.selects "java/lang/String" yJ0_charAt_5068e yJ0_charAt_5068e, Cond.methodLink "java/lang/String" 492 yJ0_isLatin1_aae02, Cond.instanceMethod yJ0_isLatin1_aae02, Cond.selects "java/lang/String" yJ0_isLatin1_aae02 yJ0_isLatin1_aae02, Cond.methodLink "java/lang/String" 495 yJ1_charAt_3b067, Cond.static yJ1_charAt_3b067, Cond.methodLink "java/lang/StringLatin1" 9 yJ0_checkIndex_df160, Cond.static yJ0_checkIndex_df160, Cond.fieldLink "java/lang/String" 1053 "jdk/internal/util/Preconditions" "SIOOBE_FORMATTER" "Ljava/util/function/BiFunction;", Cond.methodLink "java/lang/String" 1059 yJ3_checkIndex_8e157, Cond.static yJ3_checkIndex_8e157, Cond.methodLink "java/lang/String" 498 yJ2_charAt_3b067, Cond.static yJ2_charAt_3b067, Cond.methodLink "java/lang/StringUTF16" 67 yJ2_checkIndex_2214a, Cond.static yJ2_checkIndex_2214a, Cond.methodLink "java/lang/StringUTF16" 48 yJ2_length_9d52b, Cond.static yJ2_length_9d52b, Cond.methodLink "java/lang/StringUTF16" 414 yJ0_checkIndex_df160, Cond.methodLink "java/lang/StringUTF16" 71 yJ2_getChar_3b067, Cond.static yJ2_getChar_3b067]
def gc_16 : List Cond := [Cond.fieldLink "java/lang/StringUTF16" 44 "java/lang/StringUTF16" "$assertionsDisabled" "Z", Cond.fieldLink "java/lang/StringUTF16" 59 "java/lang/StringUTF16" "HI_BYTE_SHIFT" "I", Cond.fieldLink "java/lang/StringUTF16" 63 "java/lang/StringUTF16" "LO_BYTE_SHIFT" "I", Cond.methodLink RX6 74 yX6_readStrip, Cond.instanceMethod yX6_readStrip, Cond.methodLink RX6 109 yX6_refuse, Cond.instanceMethod yX6_refuse, Cond.methodLink RX6 87 yX6_takeNumber, Cond.instanceMethod yX6_takeNumber, Cond.methodLink RX6 79 yX6_takeWord, Cond.instanceMethod yX6_takeWord, Cond.instanceMethod yX3_addStrip, Cond.methodLink RX6 82 yX6_readLamp, Cond.instanceMethod yX6_readLamp, Cond.methodLink RX6 94 yX6_readBid, Cond.instanceMethod yX6_readBid, Cond.static yX8_isFarm, Cond.methodLink RX6 113 yX6_endLine, Cond.instanceMethod yX6_endLine, Cond.instanceMethod yX3_become]
def gc_17 : List Cond := [Cond.methodLink RX3 70 arraycopyName, Cond.methodLink RL 23 yX8_fault, Cond.instanceMethod yX8_fault, Cond.selects RX8 yX8_fault yX8_fault, Cond.methodLink RL 27 yX8_strip, Cond.instanceMethod yX8_strip, Cond.selects RX8 yX8_strip yX8_strip, Cond.instanceMethod yX3_hasStrip, Cond.instanceMethod yX3_lightOf, Cond.methodLink RX3 93 yX3_unshadedLight, Cond.instanceMethod yX3_unshadedLight, Cond.methodLink RX3 80 Lib.Math.abs.name, Cond.static Lib.Math.abs.name, Cond.methodLink RX3 86 Lib.Math.max.name, Cond.methodLink RX3 96 yX3_isShaded, Cond.instanceMethod yX3_isShaded, Cond.methodLink RX3 90 Lib.Math.min.name, Cond.methodLink RL 32 yX8_farm, Cond.instanceMethod yX8_farm, Cond.selects RX8 yX8_farm yX8_farm]
def gc_18 : List Cond := [Cond.methodLink RX8 135 yX8_isFarm, Cond.instanceMethod yX3_sumOfFarm, Cond.instanceMethod yX3_stripsOfFarm, Cond.methodLink RL 36 yX8_light, Cond.instanceMethod yX8_light, Cond.selects RX8 yX8_light yX8_light, Cond.methodLink RL 40 yX8_lit, Cond.instanceMethod yX8_lit, Cond.selects RX8 yX8_lit yX8_lit, Cond.instanceMethod yX3_litFrom, Cond.methodLink RX3 100 yX3_lightOf, Cond.methodLink RL 44 yX8_shaded, Cond.instanceMethod yX8_shaded, Cond.selects RX8 yX8_shaded yX8_shaded, Cond.instanceMethod yX3_shadedFrom, Cond.methodLink RL 48 yX8_high, Cond.instanceMethod yX8_high, Cond.selects RX8 yX8_high yX8_high, Cond.instanceMethod yX3_leastHeight, Cond.methodLink RL 52 yX8_highFor]
def gc_19 : List Cond := [Cond.instanceMethod yX8_highFor, Cond.selects RX8 yX8_highFor yX8_highFor, Cond.instanceMethod yX3_areStrips, Cond.methodLink RX3 76 yX3_allStrips, Cond.instanceMethod yX3_allStrips, Cond.instanceMethod yX3_leastHeightForAll, Cond.methodLink RX3 103 yX3_leastHeight, Cond.methodLink RL 57 yX8_height, Cond.instanceMethod yX8_height, Cond.selects RX8 yX8_height yX8_height, Cond.methodLink RL 61 yX8_fell, Cond.instanceMethod yX8_fell, Cond.selects RX8 yX8_fell yX8_fell, Cond.methodLink RL 65 yX8_minute, Cond.instanceMethod yX8_minute, Cond.selects RX8 yX8_minute yX8_minute, Cond.instanceMethod yX3_whyNot, Cond.methodLink RX3 112 yX3_target, Cond.instanceMethod yX3_target, Cond.constantLong RX3 106 (2)]
def gc_20 : List Cond := [Cond.methodLink RX3 108 yX3_hasStrip, Cond.instanceMethod yX3_pass, Cond.methodLink RL 69 yX8_judge, Cond.instanceMethod yX8_judge, Cond.selects RX8 yX8_judge yX8_judge, Cond.methodLink RX8 182 yX8_isRow, Cond.static yX8_isRow, Cond.instanceMethod yX3_passAll, Cond.instanceMethod yX4_valueAt, Cond.constantLong RX4 41 (-1), Cond.methodLink RX3 125 yX3_whyNot, Cond.methodLink RX3 129 yX3_pass, Cond.instanceMethod yX3_sum, Cond.instanceMethod yX3_hangsOver, Cond.methodLink RL 73 yX8_perform, Cond.instanceMethod yX8_perform, Cond.selects RX8 yX8_perform yX8_perform, Cond.methodLink RL 77 yX8_fill, Cond.instanceMethod yX8_fill, Cond.selects RX8 yX8_fill yX8_fill]
def gc_21 : List Cond := [Cond.methodLink RX8 211 Lib.Math.min.name, Cond.methodLink RL 81 yX8_night, Cond.instanceMethod yX8_night, Cond.selects RX8 yX8_night yX8_night, Cond.methodLink RX8 219 yX8_nextDraw, Cond.static yX8_nextDraw, Cond.constant RX8 349 (1103515245), Cond.methodLink RL 85 yX8_walk, Cond.instanceMethod yX8_walk, Cond.selects RX8 yX8_walk yX8_walk, Cond.methodLink RL 90 yX8_most, Cond.instanceMethod yX8_most, Cond.selects RX8 yX8_most yX8_most, Cond.methodLink RX8 225 yX8_isAskable, Cond.static yX8_isAskable, Cond.methodLink RX8 229 yX8_refusedSearch, Cond.instanceMethod yX8_refusedSearch, Cond.methodLink RX8 233 yX8_possibleMinutes, Cond.instanceMethod yX8_possibleMinutes, Cond.methodLink RX8 236 yX8_seek]
def gc_22 : List Cond := [Cond.instanceMethod yX8_seek, Cond.instanceMethod yX7_lay, Cond.methodLink RX7 48 yX7_begin, Cond.instanceMethod yX7_begin, Cond.methodLink RX7 61 yJ7_fill_53178, Cond.methodLink RX7 52 Lib.Math.min.name, Cond.methodLink RX7 58 yX7_layMinute, Cond.instanceMethod yX7_layMinute, Cond.methodLink RX7 70 yX7_end, Cond.instanceMethod yX7_end, Cond.methodLink RX7 67 Lib.Math.max.name, Cond.methodLink RX7 74 yX7_first, Cond.instanceMethod yX7_first, Cond.methodLink RX7 77 yX7_arrive, Cond.instanceMethod yX7_arrive, Cond.constantLong RX7 81 (-7046029254386353131), Cond.methodLink RX7 83 yX7_append, Cond.instanceMethod yX7_append, Cond.instanceMethod yX2_prepare, Cond.methodLink RX2 56 yX2_weightOf]
def gc_23 : List Cond := [Cond.instanceMethod yX2_weightOf, Cond.methodLink RX2 60 yX2_fillCaps, Cond.instanceMethod yX2_fillCaps, Cond.methodLink RX2 82 Lib.Math.max.name, Cond.methodLink RX2 71 Lib.Math.min.name, Cond.methodLink RX2 64 yX2_firstWorth, Cond.instanceMethod yX2_firstWorth, Cond.instanceMethod yX2_seekBest, Cond.methodLink RX2 104 yX2_open, Cond.instanceMethod yX2_open, Cond.constantLong RX2 118 (15), Cond.methodLink RX2 108 yX2_couldBeWorth, Cond.instanceMethod yX2_couldBeWorth, Cond.methodLink RX2 112 yX2_fairScore, Cond.instanceMethod yX2_fairScore, Cond.methodLink RX2 124 yJ7_fill_53178, Cond.methodLink RX2 120 yX2_cutOf, Cond.instanceMethod yX2_cutOf, Cond.methodLink RX2 115 yX2_weighedScore, Cond.instanceMethod yX2_weighedScore]
def gc_24 : List Cond := [Cond.methodLink RX8 243 yX8_foundAnswer, Cond.instanceMethod yX8_foundAnswer, Cond.instanceMethod yX7_moveOf, Cond.methodLink RL 94 yX8_dearest, Cond.instanceMethod yX8_dearest, Cond.selects RX8 yX8_dearest yX8_dearest, Cond.methodLink RL 98 yX8_fairest, Cond.instanceMethod yX8_fairest, Cond.selects RX8 yX8_fairest yX8_fairest, Cond.static yX2_fewestIn, Cond.static yX2_allIn, Cond.methodLink RL 102 yX8_alone, Cond.instanceMethod yX8_alone, Cond.selects RX8 yX8_alone yX8_alone, Cond.methodLink RL 106 yX8_pays, Cond.instanceMethod yX8_pays, Cond.selects RX8 yX8_pays yX8_pays, Cond.instanceMethod yX2_bidsOf, Cond.methodLink RL 110 yX8_shifted, Cond.instanceMethod yX8_shifted]
def gc_25 : List Cond := [Cond.selects RX8 yX8_shifted yX8_shifted, Cond.instanceMethod yX5_seekAll, Cond.methodLink RX5 33 yJ7_fill_53178, Cond.methodLink RX5 59 yX5_weigh, Cond.instanceMethod yX5_weigh, Cond.methodLink RX8 267 yX8_canShift, Cond.instanceMethod yX8_canShift, Cond.methodLink RL 114 yX8_felled, Cond.instanceMethod yX8_felled, Cond.selects RX8 yX8_felled yX8_felled, Cond.methodLink RL 118 yX8_soonest, Cond.instanceMethod yX8_soonest, Cond.selects RX8 yX8_soonest yX8_soonest, Cond.methodLink RL 122 yX8_dark, Cond.instanceMethod yX8_dark, Cond.selects RX8 yX8_dark yX8_dark, Cond.methodLink RL 127 yX8_ends, Cond.instanceMethod yX8_ends, Cond.selects RX8 yX8_ends yX8_ends, Cond.instanceMethod yX1_countUnlike]
def gc_26 : List Cond := [Cond.methodLink RX1 50 yX1_packed, Cond.static yX1_packed, Cond.methodLink RX1 67 Lib.Math.min.name, Cond.methodLink RX1 54 yX1_keep, Cond.instanceMethod yX1_keep, Cond.methodLink RL 131 yX8_halts, Cond.instanceMethod yX8_halts, Cond.selects RX8 yX8_halts yX8_halts, Cond.instanceMethod yX0_fewest, Cond.methodLink RX0 18 yX0_look, Cond.instanceMethod yX0_look, Cond.methodLink RX0 40 yJ7_fill_53178, Cond.methodLink RX0 32 yX0_canLight, Cond.static yX0_canLight, Cond.methodLink RX0 49 yJ6_numberOfTrailingZeros_0f7a4, Cond.static yJ6_numberOfTrailingZeros_0f7a4, Cond.constant "java/lang/Integer" 264 (65536), Cond.methodLink RX0 36 yX0_leastBits, Cond.instanceMethod yX0_leastBits, Cond.methodLink RL 135 yX8_tour]
def gc_27 : List Cond := [Cond.instanceMethod yX8_tour, Cond.selects RX8 yX8_tour yX8_tour, Cond.methodLink RX8 295 yJ6_numberOfTrailingZeros_0f7a4, Cond.methodLink RX8 300 yJ6_numberOfLeadingZeros_0f7a4, Cond.static yJ6_numberOfLeadingZeros_0f7a4, Cond.methodLink RX8 303 Lib.Math.max.name, Cond.methodLink RL 139 yX8_stubble, Cond.instanceMethod yX8_stubble, Cond.selects RX8 yX8_stubble yX8_stubble, Cond.methodLink RX8 306 yX8_refusedStubble, Cond.instanceMethod yX8_refusedStubble, Cond.methodLink RX8 309 yX8_explain, Cond.instanceMethod yX8_explain, Cond.instanceMethod yX1_explainNothing, Cond.instanceMethod yX1_explain, Cond.methodLink RX1 84 yX1_explainNothing, Cond.methodLink RX1 91 yX1_leaves, Cond.static yX1_leaves, Cond.instanceMethod yX2_stripsHungOver, Cond.methodLink RL 143 yX8_sure]
def gc_28 : List Cond := [Cond.instanceMethod yX8_sure, Cond.selects RX8 yX8_sure yX8_sure, Cond.methodLink RL 147 yX8_meets, Cond.instanceMethod yX8_meets, Cond.selects RX8 yX8_meets yX8_meets, Cond.methodLink RX8 319 yX8_refusedMeeting, Cond.instanceMethod yX8_refusedMeeting, Cond.methodLink RX8 322 yX8_firstMeeting, Cond.instanceMethod yX8_firstMeeting, Cond.methodLink RL 151 yX8_delay, Cond.instanceMethod yX8_delay, Cond.selects RX8 yX8_delay yX8_delay, Cond.methodLink RL 155 yX8_numbers, Cond.instanceMethod yX8_numbers, Cond.selects RX8 yX8_numbers yX8_numbers, Cond.instanceMethod yX4_renew, Cond.methodLink RX4 26 Lib.Math.min.name, Cond.methodLink RX4 32 Lib.Math.max.name, Cond.methodLink RX4 35 yJ7_fill_d0a16, Cond.static yJ7_fill_d0a16]
def gc_29 : List Cond := [Cond.methodLink RL 161 yX8_write, Cond.instanceMethod yX8_write, Cond.selects RX8 yX8_write yX8_write, Cond.constantLong RX8 330 (-2), Cond.constantLong RX8 332 (-6), Cond.constantLong RX8 334 (-7), Cond.instanceMethod yX4_put, Cond.constantLong RX4 43 (-7), Cond.methodLink RX4 45 yX4_cut, Cond.instanceMethod yX4_cut, Cond.methodLink RL 166 yX8_copy, Cond.instanceMethod yX8_copy, Cond.selects RX8 yX8_copy yX8_copy, Cond.methodLink RL 170 yX8_image, Cond.instanceMethod yX8_image, Cond.selects RX8 yX8_image yX8_image, Cond.methodLink RL 174 yX8_restore, Cond.instanceMethod yX8_restore, Cond.selects RX8 yX8_restore yX8_restore, Cond.methodLink RL 178 yX8_count]
def gc_30 : List Cond := [Cond.instanceMethod yX8_count, Cond.selects RX8 yX8_count yX8_count, Cond.classLink RL 10 RX9, Cond.instantiable RX9 37, Cond.methodLink RL 12 yX9_init, Cond.instanceMethod yX9_init, Cond.methodLink RX9 7 objectInit, Cond.methodLink RX9 61 yX9_plainIn, Cond.static yX9_plainIn, Cond.methodLink RX9 65 yX9_lampIn, Cond.static yX9_lampIn, Cond.fieldLink RX9 1 "RopeMoonModel" "thrown" "I", Cond.fieldLink RX9 13 "RopeMoonModel" "all" "[I", Cond.fieldLink RX9 17 "RopeMoonModel" "hasImage" "[Z", Cond.fieldLink RX9 21 "RopeMoonModel" "tape" "[I", Cond.fieldLink RX9 24 "RopeMoonModel" "fresh" "[I", Cond.fieldLink RX9 68 "RopeMoonModel" "taped" "I", Cond.fieldLink RX9 86 "RopeMoonModel" "at" "I", Cond.fieldLink RX9 89 "RopeMoonModel" "behind" "I", Cond.fieldLink RX9 71 "RopeMoonModel" "size" "I"]
def gc_31 : List Cond := [Cond.fieldLink RX9 96 "RopeMoonModel" "kind" "I", Cond.fieldLink RX9 109 "RopeMoonModel" "number" "I", Cond.fieldLink RX9 112 "RopeMoonModel" "wrong" "I", Cond.fieldLink RX9 115 "RopeMoonModel" "wrongAt" "I", Cond.fieldLink RX9 155 "RopeMoonModel" "faultKind" "I", Cond.fieldLink RX9 27 "RopeMoonModel" "faultPlace" "I", Cond.fieldLink RX9 30 "RopeMoonModel" "gotten" "[I", Cond.fieldLink RX9 33 "RopeMoonModel" "kept" "[I", Cond.fieldLink RX9 210 "RopeMoonModel" "why" "I", Cond.fieldLink RX9 213 "RopeMoonModel" "reapedMany" "I", Cond.fieldLink RX9 228 "RopeMoonModel" "x" "I", Cond.fieldLink RX9 36 "RopeMoonModel" "moves" "[I", Cond.fieldLink RX9 39 "RopeMoonModel" "bestMoves" "[I", Cond.fieldLink RX9 42 "RopeMoonModel" "bestGotten" "[I", Cond.fieldLink RX9 236 "RopeMoonModel" "aim" "I", Cond.fieldLink RX9 242 "RopeMoonModel" "aimFarm" "I", Cond.fieldLink RX9 251 "RopeMoonModel" "bestFirst" "I", Cond.fieldLink RX9 254 "RopeMoonModel" "bestSecond" "I", Cond.fieldLink RX9 245 "RopeMoonModel" "long1" "I", Cond.fieldLink RX9 45 "RopeMoonModel" "crops" "[I"]
def gc_32 : List Cond := [Cond.fieldLink RX9 280 "RopeMoonModel" "cropMany" "I", Cond.fieldLink RX9 48 "RopeMoonModel" "litFrom" "[I", Cond.fieldLink RX9 303 "RopeMoonModel" "hungNow" "I", Cond.fieldLink RX9 300 "RopeMoonModel" "hungAlways" "I", Cond.fieldLink RX9 297 "RopeMoonModel" "explained" "I", Cond.fieldLink RX9 51 "RopeMoonModel" "rowSort" "[I", Cond.fieldLink RX9 54 "RopeMoonModel" "rowMany" "[I", Cond.fieldLink RX9 57 "RopeMoonModel" "numbers" "[J", Cond.methodLink RL 17 yX9_feed, Cond.instanceMethod yX9_feed, Cond.selects RX9 yX9_feed yX9_feed, Cond.methodLink RL 22 yX9_plain, Cond.instanceMethod yX9_plain, Cond.selects RX9 yX9_plain yX9_plain, Cond.methodLink RX9 128 yX9_within, Cond.static yX9_within, Cond.methodLink RX9 121 yX9_next, Cond.instanceMethod yX9_next, Cond.methodLink RX9 92 yX9_see, Cond.instanceMethod yX9_see]
def gc_33 : List Cond := [Cond.methodLink RX9 99 yX9_isSmall, Cond.static yX9_isSmall, Cond.methodLink RX9 103 yX9_keyAt, Cond.instanceMethod yX9_keyAt, Cond.methodLink RX9 76 yJ0_length_8abf5, Cond.methodLink RX9 82 yJ0_charAt_5068e, Cond.methodLink RX9 106 yX9_isDigit, Cond.static yX9_isDigit, Cond.methodLink RX9 152 yX9_readLine, Cond.instanceMethod yX9_readLine, Cond.methodLink RX9 118 yX9_is, Cond.instanceMethod yX9_is, Cond.methodLink RX9 143 yX9_readStrip, Cond.instanceMethod yX9_readStrip, Cond.methodLink RX9 124 yX9_fails, Cond.instanceMethod yX9_fails, Cond.methodLink RX9 135 yX9_takes, Cond.instanceMethod yX9_takes, Cond.methodLink RX9 139 yX9_takesIf, Cond.instanceMethod yX9_takesIf]
def gc_34 : List Cond := [Cond.methodLink RX9 132 yX9_eats, Cond.instanceMethod yX9_eats, Cond.methodLink RX9 146 yX9_readLamp, Cond.instanceMethod yX9_readLamp, Cond.methodLink RX9 149 yX9_readBid, Cond.instanceMethod yX9_readBid, Cond.methodLink RL 26 yX9_fault, Cond.instanceMethod yX9_fault, Cond.selects RX9 yX9_fault yX9_fault, Cond.methodLink RL 31 yX9_strip, Cond.instanceMethod yX9_strip, Cond.selects RX9 yX9_strip yX9_strip, Cond.methodLink RX9 172 yX9_isStrip, Cond.instanceMethod yX9_isStrip, Cond.constantLong RX9 175 (5), Cond.methodLink RX9 177 yX9_lightOf, Cond.instanceMethod yX9_lightOf, Cond.methodLink RX9 168 yX9_lightBy, Cond.instanceMethod yX9_lightBy, Cond.methodLink RX9 161 yX9_isShaded]
def gc_35 : List Cond := [Cond.instanceMethod yX9_isShaded, Cond.methodLink RX9 158 yX9_off, Cond.static yX9_off, Cond.methodLink RX9 165 yX9_nearness, Cond.instanceMethod yX9_nearness, Cond.methodLink RL 35 yX9_farm, Cond.instanceMethod yX9_farm, Cond.selects RX9 yX9_farm yX9_farm, Cond.constantLong RX9 180 (3), Cond.methodLink RX9 182 yX9_ofFarm, Cond.instanceMethod yX9_ofFarm, Cond.methodLink RX9 185 yX9_stripsOf, Cond.instanceMethod yX9_stripsOf, Cond.methodLink RL 39 yX9_light, Cond.instanceMethod yX9_light, Cond.selects RX9 yX9_light yX9_light, Cond.methodLink RL 43 yX9_lit, Cond.instanceMethod yX9_lit, Cond.selects RX9 yX9_lit yX9_lit, Cond.methodLink RX9 188 yX9_litBy]
def gc_36 : List Cond := [Cond.instanceMethod yX9_litBy, Cond.methodLink RL 47 yX9_shaded, Cond.instanceMethod yX9_shaded, Cond.selects RX9 yX9_shaded yX9_shaded, Cond.methodLink RL 51 yX9_high, Cond.instanceMethod yX9_high, Cond.selects RX9 yX9_high yX9_high, Cond.methodLink RL 56 yX9_highFor, Cond.instanceMethod yX9_highFor, Cond.selects RX9 yX9_highFor yX9_highFor, Cond.methodLink RX9 191 yX9_isSet, Cond.instanceMethod yX9_isSet, Cond.methodLink RL 60 yX9_height, Cond.instanceMethod yX9_height, Cond.selects RX9 yX9_height yX9_height, Cond.constantLong RX9 194 (30), Cond.methodLink RL 64 yX9_fell, Cond.instanceMethod yX9_fell, Cond.selects RX9 yX9_fell yX9_fell, Cond.methodLink RL 68 yX9_minute]
def gc_37 : List Cond := [Cond.instanceMethod yX9_minute, Cond.selects RX9 yX9_minute yX9_minute, Cond.methodLink RX9 202 yX9_refuses, Cond.instanceMethod yX9_refuses, Cond.constantLong RX9 196 (2), Cond.methodLink RX9 198 yX9_then, Cond.static yX9_then, Cond.methodLink RX9 206 yX9_goes, Cond.instanceMethod yX9_goes, Cond.methodLink RL 72 yX9_judge, Cond.instanceMethod yX9_judge, Cond.selects RX9 yX9_judge yX9_judge, Cond.methodLink RX9 216 yX9_keeps, Cond.instanceMethod yX9_keeps, Cond.methodLink RX9 219 yX9_movesOf, Cond.instanceMethod yX9_movesOf, Cond.methodLink RX9 222 yX9_isAgain, Cond.instanceMethod yX9_isAgain, Cond.methodLink RL 76 yX9_perform, Cond.instanceMethod yX9_perform]
def gc_38 : List Cond := [Cond.selects RX9 yX9_perform yX9_perform, Cond.methodLink RL 80 yX9_fill, Cond.instanceMethod yX9_fill, Cond.selects RX9 yX9_fill yX9_fill, Cond.constantLong RX9 225 (99), Cond.methodLink RL 84 yX9_night, Cond.instanceMethod yX9_night, Cond.selects RX9 yX9_night yX9_night, Cond.constantLong RX9 231 (60), Cond.methodLink RX9 233 yX9_draw, Cond.instanceMethod yX9_draw, Cond.constant RX9 227 (1103515245), Cond.methodLink RL 89 yX9_walk, Cond.instanceMethod yX9_walk, Cond.selects RX9 yX9_walk yX9_walk, Cond.methodLink RL 93 yX9_most, Cond.instanceMethod yX9_most, Cond.selects RX9 yX9_most yX9_most, Cond.methodLink RX9 272 yX9_told, Cond.instanceMethod yX9_told]
def gc_39 : List Cond := [Cond.constantLong RX9 263 (10), Cond.constantLong RX9 265 (17), Cond.constantLong RX9 267 (8), Cond.methodLink RX9 269 yX9_laysBest, Cond.instanceMethod yX9_laysBest, Cond.methodLink RX9 260 yX9_minutesOf, Cond.instanceMethod yX9_minutesOf, Cond.methodLink RX9 257 yX9_seeks, Cond.instanceMethod yX9_seeks, Cond.methodLink RX9 248 yX9_firstWorth, Cond.instanceMethod yX9_firstWorth, Cond.methodLink RX9 239 yX9_total, Cond.instanceMethod yX9_total, Cond.methodLink RL 97 yX9_dearest, Cond.instanceMethod yX9_dearest, Cond.selects RX9 yX9_dearest yX9_dearest, Cond.methodLink RL 101 yX9_fairest, Cond.instanceMethod yX9_fairest, Cond.selects RX9 yX9_fairest yX9_fairest, Cond.methodLink RL 105 yX9_alone]
def gc_40 : List Cond := [Cond.instanceMethod yX9_alone, Cond.selects RX9 yX9_alone yX9_alone, Cond.methodLink RL 109 yX9_pays, Cond.instanceMethod yX9_pays, Cond.selects RX9 yX9_pays yX9_pays, Cond.methodLink RL 113 yX9_shifted, Cond.instanceMethod yX9_shifted, Cond.selects RX9 yX9_shifted yX9_shifted, Cond.methodLink RL 117 yX9_felled, Cond.instanceMethod yX9_felled, Cond.selects RX9 yX9_felled yX9_felled, Cond.constantLong RX9 276 (6), Cond.methodLink RL 121 yX9_soonest, Cond.instanceMethod yX9_soonest, Cond.selects RX9 yX9_soonest yX9_soonest, Cond.constantLong RX9 278 (9999), Cond.methodLink RL 126 yX9_dark, Cond.instanceMethod yX9_dark, Cond.selects RX9 yX9_dark yX9_dark, Cond.methodLink RL 130 yX9_ends]
def gc_41 : List Cond := [Cond.instanceMethod yX9_ends, Cond.selects RX9 yX9_ends yX9_ends, Cond.methodLink RX9 287 yX9_gathers, Cond.instanceMethod yX9_gathers, Cond.methodLink RX9 283 yX9_isMet, Cond.instanceMethod yX9_isMet, Cond.methodLink RL 134 yX9_halts, Cond.instanceMethod yX9_halts, Cond.selects RX9 yX9_halts yX9_halts, Cond.methodLink RX9 294 yX9_haltsFor, Cond.instanceMethod yX9_haltsFor, Cond.methodLink RX9 291 yX9_bitsOf, Cond.static yX9_bitsOf, Cond.methodLink RL 138 yX9_tour, Cond.instanceMethod yX9_tour, Cond.selects RX9 yX9_tour yX9_tour, Cond.methodLink RL 142 yX9_stubble, Cond.instanceMethod yX9_stubble, Cond.selects RX9 yX9_stubble yX9_stubble, Cond.methodLink RX9 310 yX9_laysStubble]
def gc_42 : List Cond := [Cond.instanceMethod yX9_laysStubble, Cond.methodLink RX9 306 yX9_explains, Cond.instanceMethod yX9_explains, Cond.methodLink RL 146 yX9_sure, Cond.instanceMethod yX9_sure, Cond.selects RX9 yX9_sure yX9_sure, Cond.methodLink RL 150 yX9_meets, Cond.instanceMethod yX9_meets, Cond.selects RX9 yX9_meets yX9_meets, Cond.methodLink RX9 313 yX9_canWalk, Cond.instanceMethod yX9_canWalk, Cond.methodLink RX9 316 yX9_isOther, Cond.instanceMethod yX9_isOther, Cond.methodLink RL 154 yX9_delay, Cond.instanceMethod yX9_delay, Cond.selects RX9 yX9_delay yX9_delay, Cond.methodLink RX9 320 yX9_meetBy, Cond.instanceMethod yX9_meetBy, Cond.methodLink RL 158 yX9_numbers, Cond.instanceMethod yX9_numbers]
def gc_43 : List Cond := [Cond.selects RX9 yX9_numbers yX9_numbers, Cond.constantLong RX9 323 (40), Cond.methodLink RL 165 yX9_write, Cond.instanceMethod yX9_write, Cond.selects RX9 yX9_write yX9_write, Cond.constantLong RX9 325 (-2), Cond.constantLong RX9 327 (-6), Cond.constantLong RX9 329 (-7), Cond.methodLink RX9 331 yX9_cut, Cond.static yX9_cut, Cond.methodLink RL 169 yX9_copy, Cond.instanceMethod yX9_copy, Cond.selects RX9 yX9_copy yX9_copy, Cond.methodLink RL 173 yX9_image, Cond.instanceMethod yX9_image, Cond.selects RX9 yX9_image yX9_image, Cond.methodLink RL 177 yX9_restore, Cond.instanceMethod yX9_restore, Cond.selects RX9 yX9_restore yX9_restore, Cond.methodLink RL 181 yX9_count]
def gc_44 : List Cond := [Cond.instanceMethod yX9_count, Cond.selects RX9 yX9_count yX9_count, Cond.methodLink RX9 335 yX9_sumOf, Cond.instanceMethod yX9_sumOf, Cond.constantLong RL 159 (4294967295), Cond.fieldLink "java/lang/String" 9 "java/lang/String" "value" "[B", Cond.fieldLink "java/lang/String" 15 "java/lang/String" "coder" "B"]
def gc_45 : List Cond := [Cond.code yX8_init cX8_init 2 none, Cond.code objectInit ⟨#[0xb1]⟩ 1 none, Cond.code yX6_init cX6_init 1 none, Cond.code yX3_init cX3_init 1 none, Cond.code yX3_empty cX3_empty 1 none, Cond.code yJ7_fill_53178 cJ7_fill_53178 4 none, Cond.code yX7_init cX7_init 1 none, Cond.code yX2_init cX2_init 1 none, Cond.code yX5_init cX5_init 1 none, Cond.code yX1_init cX1_init 1 none, Cond.code yX0_init cX0_init 1 none, Cond.code yX4_init cX4_init 1 none]
def gc_46 : List Cond := [Cond.code yX8_feed cX8_feed 6 (some .int), Cond.code yX8_tapeInt cX8_tapeInt 3 none, Cond.code yX8_plain cX8_plain 3 (some .int), Cond.code yX6_readText cX6_readText 4 (some .int), Cond.code Lib.Math.min.name Lib.Math.min.code 2 (some .int), Cond.code Lib.Math.max.name Lib.Math.max.code 2 (some .int), Cond.code yX6_advance cX6_advance 1 none, Cond.code yX6_endOf cX6_endOf 4 (some .int), Cond.code yX6_kindAt cX6_kindAt 3 (some .int), Cond.code yX6_readValue cX6_readValue 3 none, Cond.code yX6_readLine cX6_readLine 1 none, Cond.code yX6_isWord cX6_isWord 3 (some .boolean)]
def gc_47 : List Cond := [Cond.code yJ0_length_8abf5 cJ0_length_8abf5 1 (some .int), Cond.code yJ0_coder_7d493 cJ0_coder_7d493 1 (some .byte), Cond.code yJ0_charAt_5068e cJ0_charAt_5068e 2 (some .char), Cond.code yJ0_isLatin1_aae02 cJ0_isLatin1_aae02 1 (some .boolean), Cond.code yJ1_charAt_3b067 cJ1_charAt_3b067 2 (some .char), Cond.code yJ0_checkIndex_df160 cJ0_checkIndex_df160 2 none, Cond.code yJ3_checkIndex_8e157 cJ3_checkIndex_8e157 3 (some .int), Cond.code yX6_readStrip cX6_readStrip 5 none, Cond.code yX6_refuse cX6_refuse 2 none, Cond.code yX6_takeNumber cX6_takeNumber 4 (some .int), Cond.code yX6_takeWord cX6_takeWord 2 (some .boolean), Cond.code yX3_addStrip cX3_addStrip 5 none]
def gc_48 : List Cond := [Cond.code yX6_readLamp cX6_readLamp 1 none, Cond.code yX6_readBid cX6_readBid 3 none, Cond.code yX8_isFarm cX8_isFarm 1 (some .boolean), Cond.code yX6_endLine cX6_endLine 1 none, Cond.code yX3_become cX3_become 2 none, Cond.code yX8_fault cX8_fault 2 (some .int), Cond.code yX8_strip cX8_strip 3 (some .int), Cond.code yX3_hasStrip cX3_hasStrip 2 (some .boolean), Cond.code yX3_lightOf cX3_lightOf 4 (some .int), Cond.code yX3_unshadedLight cX3_unshadedLight 3 (some .int), Cond.code Lib.Math.abs.name Lib.Math.abs.code 1 (some .int), Cond.code yX3_isShaded cX3_isShaded 6 (some .boolean)]
def gc_49 : List Cond := [Cond.code yX8_farm cX8_farm 3 (some .int), Cond.code yX3_sumOfFarm cX3_sumOfFarm 5 (some .int), Cond.code yX3_stripsOfFarm cX3_stripsOfFarm 4 (some .int), Cond.code yX8_light cX8_light 3 (some .int), Cond.code yX8_lit cX8_lit 2 (some .int), Cond.code yX3_litFrom cX3_litFrom 4 (some .int), Cond.code yX8_shaded cX8_shaded 2 (some .int), Cond.code yX3_shadedFrom cX3_shadedFrom 4 (some .int), Cond.code yX8_high cX8_high 3 (some .int), Cond.code yX3_leastHeight cX3_leastHeight 9 (some .int), Cond.code yX8_highFor cX8_highFor 7 (some .int), Cond.code yX3_areStrips cX3_areStrips 2 (some .boolean)]
def gc_50 : List Cond := [Cond.code yX3_allStrips cX3_allStrips 1 (some .int), Cond.code yX3_leastHeightForAll cX3_leastHeightForAll 6 (some .int), Cond.code yX8_height cX8_height 3 (some .int), Cond.code yX8_fell cX8_fell 3 (some .int), Cond.code yX8_minute cX8_minute 3 (some .int), Cond.code yX3_whyNot cX3_whyNot 3 (some .int), Cond.code yX3_target cX3_target 5 (some .int), Cond.code yX3_pass cX3_pass 6 (some .int), Cond.code yX8_judge cX8_judge 6 (some .int), Cond.code yX8_isRow cX8_isRow 1 (some .boolean), Cond.code yX3_passAll cX3_passAll 5 (some .int), Cond.code yX4_valueAt cX4_valueAt 2 (some .long)]
def gc_51 : List Cond := [Cond.code yX3_sum cX3_sum 4 (some .int), Cond.code yX3_hangsOver cX3_hangsOver 1 (some .int), Cond.code yX8_perform cX8_perform 2 (some .int), Cond.code yX8_fill cX8_fill 2 (some .int), Cond.code yX8_night cX8_night 9 (some .int), Cond.code yX8_nextDraw cX8_nextDraw 1 (some .int), Cond.code yX8_walk cX8_walk 4 (some .int), Cond.code yX8_most cX8_most 4 (some .int), Cond.code yX8_isAskable cX8_isAskable 2 (some .boolean), Cond.code yX8_refusedSearch cX8_refusedSearch 4 (some .int), Cond.code yX8_possibleMinutes cX8_possibleMinutes 2 (some .int), Cond.code yX8_seek cX8_seek 5 none]
def gc_52 : List Cond := [Cond.code yX7_lay cX7_lay 6 none, Cond.code yX7_begin cX7_begin 3 none, Cond.code yX7_layMinute cX7_layMinute 3 none, Cond.code yX7_end cX7_end 2 (some .int), Cond.code yX7_first cX7_first 2 (some .int), Cond.code yX7_arrive cX7_arrive 11 none, Cond.code yX7_append cX7_append 7 none, Cond.code yX2_prepare cX2_prepare 5 none, Cond.code yX2_weightOf cX2_weightOf 3 (some .int), Cond.code yX2_fillCaps cX2_fillCaps 6 none, Cond.code yX2_firstWorth cX2_firstWorth 4 (some .int), Cond.code yX2_seekBest cX2_seekBest 7 none]
def gc_53 : List Cond := [Cond.code yX2_open cX2_open 7 none, Cond.code yX2_couldBeWorth cX2_couldBeWorth 3 (some .int), Cond.code yX2_fairScore cX2_fairScore 4 (some .int), Cond.code yX2_cutOf cX2_cutOf 5 (some .int), Cond.code yX2_weighedScore cX2_weighedScore 3 (some .int), Cond.code yX8_foundAnswer cX8_foundAnswer 4 (some .int), Cond.code yX7_moveOf cX7_moveOf 4 (some .int), Cond.code yX8_dearest cX8_dearest 4 (some .int), Cond.code yX8_fairest cX8_fairest 5 (some .int), Cond.code yX2_fewestIn cX2_fewestIn 1 (some .int), Cond.code yX2_allIn cX2_allIn 1 (some .int), Cond.code yX8_alone cX8_alone 5 (some .int)]
def gc_54 : List Cond := [Cond.code yX8_pays cX8_pays 5 (some .int), Cond.code yX2_bidsOf cX2_bidsOf 6 (some .int), Cond.code yX8_shifted cX8_shifted 8 (some .int), Cond.code yX5_seekAll cX5_seekAll 6 none, Cond.code yX5_weigh cX5_weigh 9 none, Cond.code yX8_canShift cX8_canShift 3 (some .boolean), Cond.code yX8_felled cX8_felled 8 (some .int), Cond.code yX8_soonest cX8_soonest 4 (some .int), Cond.code yX8_dark cX8_dark 3 (some .int), Cond.code yX8_ends cX8_ends 4 (some .int), Cond.code yX1_countUnlike cX1_countUnlike 6 (some .int), Cond.code yX1_packed cX1_packed 6 (some .long)]
def gc_55 : List Cond := [Cond.code yX1_keep cX1_keep 6 none, Cond.code yX8_halts cX8_halts 2 (some .int), Cond.code yX0_fewest cX0_fewest 5 (some .int), Cond.code yX0_look cX0_look 4 none, Cond.code yX0_canLight cX0_canLight 8 (some .boolean), Cond.code yJ6_numberOfTrailingZeros_0f7a4 cJ6_numberOfTrailingZeros_0f7a4 2 (some .int), Cond.code yX0_leastBits cX0_leastBits 8 (some .int), Cond.code yX8_tour cX8_tour 5 (some .int), Cond.code yJ6_numberOfLeadingZeros_0f7a4 cJ6_numberOfLeadingZeros_0f7a4 2 (some .int), Cond.code yX8_stubble cX8_stubble 4 (some .int), Cond.code yX8_refusedStubble cX8_refusedStubble 3 (some .int), Cond.code yX8_explain cX8_explain 3 none]
def gc_56 : List Cond := [Cond.code yX1_explainNothing cX1_explainNothing 1 none, Cond.code yX1_explain cX1_explain 8 none, Cond.code yX1_leaves cX1_leaves 3 (some .boolean), Cond.code yX2_stripsHungOver cX2_stripsHungOver 3 (some .int), Cond.code yX8_sure cX8_sure 4 (some .int), Cond.code yX8_meets cX8_meets 4 (some .int), Cond.code yX8_refusedMeeting cX8_refusedMeeting 5 (some .int), Cond.code yX8_firstMeeting cX8_firstMeeting 7 (some .int), Cond.code yX8_delay cX8_delay 5 (some .int), Cond.code yX8_numbers cX8_numbers 4 (some .int), Cond.code yX4_renew cX4_renew 3 none, Cond.code yJ7_fill_d0a16 cJ7_fill_d0a16 5 none]
def gc_57 : List Cond := [Cond.code yX8_write cX8_write 6 (some .long), Cond.code yX4_put cX4_put 4 (some .long), Cond.code yX4_cut cX4_cut 3 (some .long), Cond.code yX8_copy cX8_copy 4 (some .int), Cond.code yX8_image cX8_image 2 (some .int), Cond.code yX8_restore cX8_restore 2 (some .int), Cond.code yX8_count cX8_count 2 (some .int), Cond.code yX9_init cX9_init 1 none, Cond.code yX9_plainIn cX9_plainIn 2 none, Cond.code yX9_lampIn cX9_lampIn 1 none, Cond.code yX9_feed cX9_feed 8 (some .int), Cond.code yX9_plain cX9_plain 3 (some .int)]
def gc_58 : List Cond := [Cond.code yX9_within cX9_within 6 (some .boolean), Cond.code yX9_next cX9_next 1 none, Cond.code yX9_see cX9_see 2 (some .int), Cond.code yX9_isSmall cX9_isSmall 1 (some .boolean), Cond.code yX9_keyAt cX9_keyAt 4 (some .int), Cond.code yX9_isDigit cX9_isDigit 1 (some .boolean), Cond.code yX9_readLine cX9_readLine 1 none, Cond.code yX9_is cX9_is 2 (some .boolean), Cond.code yX9_readStrip cX9_readStrip 6 none, Cond.code yX9_fails cX9_fails 2 none, Cond.code yX9_takes cX9_takes 4 (some .int), Cond.code yX9_takesIf cX9_takesIf 5 (some .int)]
def gc_59 : List Cond := [Cond.code yX9_eats cX9_eats 2 (some .boolean), Cond.code yX9_readLamp cX9_readLamp 1 none, Cond.code yX9_readBid cX9_readBid 3 none, Cond.code yX9_fault cX9_fault 2 (some .int), Cond.code yX9_strip cX9_strip 3 (some .int), Cond.code yX9_isStrip cX9_isStrip 2 (some .boolean), Cond.code yX9_lightOf cX9_lightOf 3 (some .int), Cond.code yX9_lightBy cX9_lightBy 4 (some .int), Cond.code yX9_isShaded cX9_isShaded 7 (some .boolean), Cond.code yX9_off cX9_off 2 (some .int), Cond.code yX9_nearness cX9_nearness 4 (some .int), Cond.code yX9_farm cX9_farm 3 (some .int)]
def gc_60 : List Cond := [Cond.code yX9_ofFarm cX9_ofFarm 5 (some .int), Cond.code yX9_stripsOf cX9_stripsOf 4 (some .int), Cond.code yX9_light cX9_light 3 (some .int), Cond.code yX9_lit cX9_lit 2 (some .int), Cond.code yX9_litBy cX9_litBy 5 (some .int), Cond.code yX9_shaded cX9_shaded 4 (some .int), Cond.code yX9_high cX9_high 4 (some .int), Cond.code yX9_highFor cX9_highFor 5 (some .int), Cond.code yX9_isSet cX9_isSet 2 (some .boolean), Cond.code yX9_height cX9_height 3 (some .int), Cond.code yX9_fell cX9_fell 3 (some .int), Cond.code yX9_minute cX9_minute 3 (some .int)]
def gc_61 : List Cond := [Cond.code yX9_refuses cX9_refuses 3 (some .int), Cond.code yX9_then cX9_then 3 (some .int), Cond.code yX9_goes cX9_goes 6 (some .int), Cond.code yX9_judge cX9_judge 5 (some .int), Cond.code yX9_keeps cX9_keeps 3 none, Cond.code yX9_movesOf cX9_movesOf 3 (some .int), Cond.code yX9_isAgain cX9_isAgain 3 none, Cond.code yX9_perform cX9_perform 2 (some .int), Cond.code yX9_fill cX9_fill 2 (some .int), Cond.code yX9_night cX9_night 7 (some .int), Cond.code yX9_draw cX9_draw 2 (some .int), Cond.code yX9_walk cX9_walk 4 (some .int)]
def gc_62 : List Cond := [Cond.code yX9_most cX9_most 3 (some .int), Cond.code yX9_told cX9_told 6 (some .int), Cond.code yX9_laysBest cX9_laysBest 5 (some .int), Cond.code yX9_minutesOf cX9_minutesOf 3 (some .int), Cond.code yX9_seeks cX9_seeks 9 none, Cond.code yX9_firstWorth cX9_firstWorth 4 (some .int), Cond.code yX9_total cX9_total 3 (some .int), Cond.code yX9_dearest cX9_dearest 3 (some .int), Cond.code yX9_fairest cX9_fairest 3 (some .int), Cond.code yX9_alone cX9_alone 4 (some .int), Cond.code yX9_pays cX9_pays 6 (some .int), Cond.code yX9_shifted cX9_shifted 10 (some .int)]
def gc_63 : List Cond := [Cond.code yX9_felled cX9_felled 9 (some .int), Cond.code yX9_soonest cX9_soonest 3 (some .int), Cond.code yX9_dark cX9_dark 3 (some .int), Cond.code yX9_ends cX9_ends 2 (some .int), Cond.code yX9_gathers cX9_gathers 4 none, Cond.code yX9_isMet cX9_isMet 3 (some .boolean), Cond.code yX9_halts cX9_halts 2 (some .int), Cond.code yX9_haltsFor cX9_haltsFor 6 (some .int), Cond.code yX9_bitsOf cX9_bitsOf 3 (some .int), Cond.code yX9_tour cX9_tour 7 (some .int), Cond.code yX9_stubble cX9_stubble 4 (some .int), Cond.code yX9_laysStubble cX9_laysStubble 3 (some .int)]
def gc_64 : List Cond := [Cond.code yX9_explains cX9_explains 6 none, Cond.code yX9_sure cX9_sure 4 (some .int), Cond.code yX9_meets cX9_meets 5 (some .int), Cond.code yX9_canWalk cX9_canWalk 6 (some .boolean), Cond.code yX9_isOther cX9_isOther 3 (some .boolean), Cond.code yX9_delay cX9_delay 4 (some .int), Cond.code yX9_meetBy cX9_meetBy 6 (some .boolean), Cond.code yX9_numbers cX9_numbers 5 (some .int), Cond.code yX9_write cX9_write 5 (some .long), Cond.code yX9_cut cX9_cut 3 (some .long), Cond.code yX9_copy cX9_copy 3 (some .int), Cond.code yX9_image cX9_image 3 (some .int)]
def gc_65 : List Cond := [Cond.code yX9_restore cX9_restore 3 (some .int), Cond.code yX9_count cX9_count 2 (some .int), Cond.code yX9_sumOf cX9_sumOf 4 (some .int)]
def gw_T : List Cond := gl_0 ++ (gl_1 ++ (gl_2 ++ (gl_3 ++ (gl_4 ++ (gl_5 ++ (gl_6 ++ (gl_7 ++ (gl_8 ++ (gl_9 ++ (gc_0 ++ (gc_1 ++ (gc_2 ++ (gc_3 ++ (gc_4 ++ (gc_5 ++ (gc_6 ++ (gc_7 ++ (gc_8 ++ (gc_9 ++ (gc_10 ++ (gc_11 ++ (gc_12 ++ (gc_13 ++ (gc_14 ++ (gc_15 ++ (gc_16 ++ (gc_17 ++ (gc_18 ++ (gc_19 ++ (gc_20 ++ (gc_21 ++ (gc_22 ++ (gc_23 ++ (gc_24 ++ (gc_25 ++ (gc_26 ++ (gc_27 ++ (gc_28 ++ (gc_29 ++ (gc_30 ++ (gc_31 ++ (gc_32 ++ (gc_33 ++ (gc_34 ++ (gc_35 ++ (gc_36 ++ (gc_37 ++ (gc_38 ++ (gc_39 ++ (gc_40 ++ (gc_41 ++ (gc_42 ++ (gc_43 ++ (gc_44 ++ (gc_45 ++ (gc_46 ++ (gc_47 ++ (gc_48 ++ (gc_49 ++ (gc_50 ++ (gc_51 ++ (gc_52 ++ (gc_53 ++ (gc_54 ++ (gc_55 ++ (gc_56 ++ (gc_57 ++ (gc_58 ++ (gc_59 ++ (gc_60 ++ (gc_61 ++ (gc_62 ++ (gc_63 ++ (gc_64 ++ (gc_65)))))))))))))))))))))))))))))))))))))))))))))))))))))))))))))))))))))))))))
theorem in_gl_0 : ∀ w ∈ gl_0, w ∈ gw_T := fun _ h => List.mem_append_left _ h
theorem in_gl_1 : ∀ w ∈ gl_1, w ∈ gw_T := fun _ h => List.mem_append_right _ (List.mem_append_left _ h)
theorem in_gl_2 : ∀ w ∈ gl_2, w ∈ gw_T := fun _ h => List.mem_append_right _ (List.mem_append_right _ (List.mem_append_left _ h))
theorem in_gl_3 : ∀ w ∈ gl_3, w ∈ gw_T := fun _ h => List.mem_append_right _ (List.mem_append_right _ (List.mem_append_right _ (List.mem_append_left _ h)))
theorem in_gl_4 : ∀ w ∈ gl_4, w ∈ gw_T := fun _ h => List.mem_append_right _ (List.mem_append_right _ (List.mem_append_right _ (List.mem_append_right _ (List.mem_append_left _ h))))
theorem in_gl_5 : ∀ w ∈ gl_5, w ∈ gw_T := fun _ h => List.mem_append_right _ (List.mem_append_right _ (List.mem_append_right _ (List.mem_append_right _ (List.mem_append_right _ (List.mem_append_left _ h)))))
theorem in_gl_6 : ∀ w ∈ gl_6, w ∈ gw_T := fun _ h => List.mem_append_right _ (List.mem_append_right _ (List.mem_append_right _ (List.mem_append_right _ (List.mem_append_right _ (List.mem_append_right _ (List.mem_append_left _ h))))))
theorem in_gl_7 : ∀ w ∈ gl_7, w ∈ gw_T := fun _ h => List.mem_append_right _ (List.mem_append_right _ (List.mem_append_right _ (List.mem_append_right _ (List.mem_append_right _ (List.mem_append_right _ (List.mem_append_right _ (List.mem_append_left _ h)))))))
theorem in_gl_8 : ∀ w ∈ gl_8, w ∈ gw_T := fun _ h => List.mem_append_right _ (List.mem_append_right _ (List.mem_append_right _ (List.mem_append_right _ (List.mem_append_right _ (List.mem_append_right _ (List.mem_append_right _ (List.mem_append_right _ (List.mem_append_left _ h))))))))
theorem in_gl_9 : ∀ w ∈ gl_9, w ∈ gw_T := fun _ h => List.mem_append_right _ (List.mem_append_right _ (List.mem_append_right _ (List.mem_append_right _ (List.mem_append_right _ (List.mem_append_right _ (List.mem_append_right _ (List.mem_append_right _ (List.mem_append_right _ (List.mem_append_left _ h)))))))))
theorem in_gc_0 : ∀ w ∈ gc_0, w ∈ gw_T := fun _ h => List.mem_append_right _ (List.mem_append_right _ (List.mem_append_right _ (List.mem_append_right _ (List.mem_append_right _ (List.mem_append_right _ (List.mem_append_right _ (List.mem_append_right _ (List.mem_append_right _ (List.mem_append_right _ (List.mem_append_left _ h))))))))))
theorem in_gc_1 : ∀ w ∈ gc_1, w ∈ gw_T := fun _ h => List.mem_append_right _ (List.mem_append_right _ (List.mem_append_right _ (List.mem_append_right _ (List.mem_append_right _ (List.mem_append_right _ (List.mem_append_right _ (List.mem_append_right _ (List.mem_append_right _ (List.mem_append_right _ (List.mem_append_right _ (List.mem_append_left _ h)))))))))))
theorem in_gc_2 : ∀ w ∈ gc_2, w ∈ gw_T := fun _ h => List.mem_append_right _ (List.mem_append_right _ (List.mem_append_right _ (List.mem_append_right _ (List.mem_append_right _ (List.mem_append_right _ (List.mem_append_right _ (List.mem_append_right _ (List.mem_append_right _ (List.mem_append_right _ (List.mem_append_right _ (List.mem_append_right _ (List.mem_append_left _ h))))))))))))
theorem in_gc_3 : ∀ w ∈ gc_3, w ∈ gw_T := fun _ h => List.mem_append_right _ (List.mem_append_right _ (List.mem_append_right _ (List.mem_append_right _ (List.mem_append_right _ (List.mem_append_right _ (List.mem_append_right _ (List.mem_append_right _ (List.mem_append_right _ (List.mem_append_right _ (List.mem_append_right _ (List.mem_append_right _ (List.mem_append_right _ (List.mem_append_left _ h)))))))))))))
theorem in_gc_4 : ∀ w ∈ gc_4, w ∈ gw_T := fun _ h => List.mem_append_right _ (List.mem_append_right _ (List.mem_append_right _ (List.mem_append_right _ (List.mem_append_right _ (List.mem_append_right _ (List.mem_append_right _ (List.mem_append_right _ (List.mem_append_right _ (List.mem_append_right _ (List.mem_append_right _ (List.mem_append_right _ (List.mem_append_right _ (List.mem_append_right _ (List.mem_append_left _ h))))))))))))))
theorem in_gc_5 : ∀ w ∈ gc_5, w ∈ gw_T := fun _ h => List.mem_append_right _ (List.mem_append_right _ (List.mem_append_right _ (List.mem_append_right _ (List.mem_append_right _ (List.mem_append_right _ (List.mem_append_right _ (List.mem_append_right _ (List.mem_append_right _ (List.mem_append_right _ (List.mem_append_right _ (List.mem_append_right _ (List.mem_append_right _ (List.mem_append_right _ (List.mem_append_right _ (List.mem_append_left _ h)))))))))))))))
theorem in_gc_6 : ∀ w ∈ gc_6, w ∈ gw_T := fun _ h => List.mem_append_right _ (List.mem_append_right _ (List.mem_append_right _ (List.mem_append_right _ (List.mem_append_right _ (List.mem_append_right _ (List.mem_append_right _ (List.mem_append_right _ (List.mem_append_right _ (List.mem_append_right _ (List.mem_append_right _ (List.mem_append_right _ (List.mem_append_right _ (List.mem_append_right _ (List.mem_append_right _ (List.mem_append_right _ (List.mem_append_left _ h))))))))))))))))
theorem in_gc_7 : ∀ w ∈ gc_7, w ∈ gw_T := fun _ h => List.mem_append_right _ (List.mem_append_right _ (List.mem_append_right _ (List.mem_append_right _ (List.mem_append_right _ (List.mem_append_right _ (List.mem_append_right _ (List.mem_append_right _ (List.mem_append_right _ (List.mem_append_right _ (List.mem_append_right _ (List.mem_append_right _ (List.mem_append_right _ (List.mem_append_right _ (List.mem_append_right _ (List.mem_append_right _ (List.mem_append_right _ (List.mem_append_left _ h)))))))))))))))))
theorem in_gc_8 : ∀ w ∈ gc_8, w ∈ gw_T := fun _ h => List.mem_append_right _ (List.mem_append_right _ (List.mem_append_right _ (List.mem_append_right _ (List.mem_append_right _ (List.mem_append_right _ (List.mem_append_right _ (List.mem_append_right _ (List.mem_append_right _ (List.mem_append_right _ (List.mem_append_right _ (List.mem_append_right _ (List.mem_append_right _ (List.mem_append_right _ (List.mem_append_right _ (List.mem_append_right _ (List.mem_append_right _ (List.mem_append_right _ (List.mem_append_left _ h))))))))))))))))))
theorem in_gc_9 : ∀ w ∈ gc_9, w ∈ gw_T := fun _ h => List.mem_append_right _ (List.mem_append_right _ (List.mem_append_right _ (List.mem_append_right _ (List.mem_append_right _ (List.mem_append_right _ (List.mem_append_right _ (List.mem_append_right _ (List.mem_append_right _ (List.mem_append_right _ (List.mem_append_right _ (List.mem_append_right _ (List.mem_append_right _ (List.mem_append_right _ (List.mem_append_right _ (List.mem_append_right _ (List.mem_append_right _ (List.mem_append_right _ (List.mem_append_right _ (List.mem_append_left _ h)))))))))))))))))))
theorem in_gc_10 : ∀ w ∈ gc_10, w ∈ gw_T := fun _ h => List.mem_append_right _ (List.mem_append_right _ (List.mem_append_right _ (List.mem_append_right _ (List.mem_append_right _ (List.mem_append_right _ (List.mem_append_right _ (List.mem_append_right _ (List.mem_append_right _ (List.mem_append_right _ (List.mem_append_right _ (List.mem_append_right _ (List.mem_append_right _ (List.mem_append_right _ (List.mem_append_right _ (List.mem_append_right _ (List.mem_append_right _ (List.mem_append_right _ (List.mem_append_right _ (List.mem_append_right _ (List.mem_append_left _ h))))))))))))))))))))
theorem in_gc_11 : ∀ w ∈ gc_11, w ∈ gw_T := fun _ h => List.mem_append_right _ (List.mem_append_right _ (List.mem_append_right _ (List.mem_append_right _ (List.mem_append_right _ (List.mem_append_right _ (List.mem_append_right _ (List.mem_append_right _ (List.mem_append_right _ (List.mem_append_right _ (List.mem_append_right _ (List.mem_append_right _ (List.mem_append_right _ (List.mem_append_right _ (List.mem_append_right _ (List.mem_append_right _ (List.mem_append_right _ (List.mem_append_right _ (List.mem_append_right _ (List.mem_append_right _ (List.mem_append_right _ (List.mem_append_left _ h)))))))))))))))))))))
theorem in_gc_12 : ∀ w ∈ gc_12, w ∈ gw_T := fun _ h => List.mem_append_right _ (List.mem_append_right _ (List.mem_append_right _ (List.mem_append_right _ (List.mem_append_right _ (List.mem_append_right _ (List.mem_append_right _ (List.mem_append_right _ (List.mem_append_right _ (List.mem_append_right _ (List.mem_append_right _ (List.mem_append_right _ (List.mem_append_right _ (List.mem_append_right _ (List.mem_append_right _ (List.mem_append_right _ (List.mem_append_right _ (List.mem_append_right _ (List.mem_append_right _ (List.mem_append_right _ (List.mem_append_right _ (List.mem_append_right _ (List.mem_append_left _ h))))))))))))))))))))))
theorem in_gc_13 : ∀ w ∈ gc_13, w ∈ gw_T := fun _ h => List.mem_append_right _ (List.mem_append_right _ (List.mem_append_right _ (List.mem_append_right _ (List.mem_append_right _ (List.mem_append_right _ (List.mem_append_right _ (List.mem_append_right _ (List.mem_append_right _ (List.mem_append_right _ (List.mem_append_right _ (List.mem_append_right _ (List.mem_append_right _ (List.mem_append_right _ (List.mem_append_right _ (List.mem_append_right _ (List.mem_append_right _ (List.mem_append_right _ (List.mem_append_right _ (List.mem_append_right _ (List.mem_append_right _ (List.mem_append_right _ (List.mem_append_right _ (List.mem_append_left _ h)))))))))))))))))))))))
theorem in_gc_14 : ∀ w ∈ gc_14, w ∈ gw_T := fun _ h => List.mem_append_right _ (List.mem_append_right _ (List.mem_append_right _ (List.mem_append_right _ (List.mem_append_right _ (List.mem_append_right _ (List.mem_append_right _ (List.mem_append_right _ (List.mem_append_right _ (List.mem_append_right _ (List.mem_append_right _ (List.mem_append_right _ (List.mem_append_right _ (List.mem_append_right _ (List.mem_append_right _ (List.mem_append_right _ (List.mem_append_right _ (List.mem_append_right _ (List.mem_append_right _ (List.mem_append_right _ (List.mem_append_right _ (List.mem_append_right _ (List.mem_append_right _ (List.mem_append_right _ (List.mem_append_left _ h))))))))))))))))))))))))
theorem in_gc_15 : ∀ w ∈ gc_15, w ∈ gw_T := fun _ h => List.mem_append_right _ (List.mem_append_right _ (List.mem_append_right _ (List.mem_append_right _ (List.mem_append_right _ (List.mem_append_right _ (List.mem_append_right _ (List.mem_append_right _ (List.mem_append_right _ (List.mem_append_right _ (List.mem_append_right _ (List.mem_append_right _ (List.mem_append_right _ (List.mem_append_right _ (List.mem_append_right _ (List.mem_append_right _ (List.mem_append_right _ (List.mem_append_right _ (List.mem_append_right _ (List.mem_append_right _ (List.mem_append_right _ (List.mem_append_right _ (List.mem_append_right _ (List.mem_append_right _ (List.mem_append_right _ (List.mem_append_left _ h)))))))))))))))))))))))))
theorem in_gc_16 : ∀ w ∈ gc_16, w ∈ gw_T := fun _ h => List.mem_append_right _ (List.mem_append_right _ (List.mem_append_right _ (List.mem_append_right _ (List.mem_append_right _ (List.mem_append_right _ (List.mem_append_right _ (List.mem_append_right _ (List.mem_append_right _ (List.mem_append_right _ (List.mem_append_right _ (List.mem_append_right _ (List.mem_append_right _ (List.mem_append_right _ (List.mem_append_right _ (List.mem_append_right _ (List.mem_append_right _ (List.mem_append_right _ (List.mem_append_right _ (List.mem_append_right _ (List.mem_append_right _ (List.mem_append_right _ (List.mem_append_right _ (List.mem_append_right _ (List.mem_append_right _ (List.mem_append_right _ (List.mem_append_left _ h))))))))))))))))))))))))))
theorem in_gc_17 : ∀ w ∈ gc_17, w ∈ gw_T := fun _ h => List.mem_append_right _ (List.mem_append_right _ (List.mem_append_right _ (List.mem_append_right _ (List.mem_append_right _ (List.mem_append_right _ (List.mem_append_right _ (List.mem_append_right _ (List.mem_append_right _ (List.mem_append_right _ (List.mem_append_right _ (List.mem_append_right _ (List.mem_append_right _ (List.mem_append_right _ (List.mem_append_right _ (List.mem_append_right _ (List.mem_append_right _ (List.mem_append_right _ (List.mem_append_right _ (List.mem_append_right _ (List.mem_append_right _ (List.mem_append_right _ (List.mem_append_right _ (List.mem_append_right _ (List.mem_append_right _ (List.mem_append_right _ (List.mem_append_right _ (List.mem_append_left _ h)))))))))))))))))))))))))))
theorem in_gc_18 : ∀ w ∈ gc_18, w ∈ gw_T := fun _ h => List.mem_append_right _ (List.mem_append_right _ (List.mem_append_right _ (List.mem_append_right _ (List.mem_append_right _ (List.mem_append_right _ (List.mem_append_right _ (List.mem_append_right _ (List.mem_append_right _ (List.mem_append_right _ (List.mem_append_right _ (List.mem_append_right _ (List.mem_append_right _ (List.mem_append_right _ (List.mem_append_right _ (List.mem_append_right _ (List.mem_append_right _ (List.mem_append_right _ (List.mem_append_right _ (List.mem_append_right _ (List.mem_append_right _ (List.mem_append_right _ (List.mem_append_right _ (List.mem_append_right _ (List.mem_append_right _ (List.mem_append_right _ (List.mem_append_right _ (List.mem_append_right _ (List.mem_append_left _ h))))))))))))))))))))))))))))
theorem in_gc_19 : ∀ w ∈ gc_19, w ∈ gw_T := fun _ h => List.mem_append_right _ (List.mem_append_right _ (List.mem_append_right _ (List.mem_append_right _ (List.mem_append_right _ (List.mem_append_right _ (List.mem_append_right _ (List.mem_append_right _ (List.mem_append_right _ (List.mem_append_right _ (List.mem_append_right _ (List.mem_append_right _ (List.mem_append_right _ (List.mem_append_right _ (List.mem_append_right _ (List.mem_append_right _ (List.mem_append_right _ (List.mem_append_right _ (List.mem_append_right _ (List.mem_append_right _ (List.mem_append_right _ (List.mem_append_right _ (List.mem_append_right _ (List.mem_append_right _ (List.mem_append_right _ (List.mem_append_right _ (List.mem_append_right _ (List.mem_append_right _ (List.mem_append_right _ (List.mem_append_left _ h)))))))))))))))))))))))))))))
theorem in_gc_20 : ∀ w ∈ gc_20, w ∈ gw_T := fun _ h => List.mem_append_right _ (List.mem_append_right _ (List.mem_append_right _ (List.mem_append_right _ (List.mem_append_right _ (List.mem_append_right _ (List.mem_append_right _ (List.mem_append_right _ (List.mem_append_right _ (List.mem_append_right _ (List.mem_append_right _ (List.mem_append_right _ (List.mem_append_right _ (List.mem_append_right _ (List.mem_append_right _ (List.mem_append_right _ (List.mem_append_right _ (List.mem_append_right _ (List.mem_append_right _ (List.mem_append_right _ (List.mem_append_right _ (List.mem_append_right _ (List.mem_append_right _ (List.mem_append_right _ (List.mem_append_right _ (List.mem_append_right _ (List.mem_append_right _ (List.mem_append_right _ (List.mem_append_right _ (List.mem_append_right _ (List.mem_append_left _ h))))))))))))))))))))))))))))))
theorem in_gc_21 : ∀ w ∈ gc_21, w ∈ gw_T := fun _ h => List.mem_append_right _ (List.mem_append_right _ (List.mem_append_right _ (List.mem_append_right _ (List.mem_append_right _ (List.mem_append_right _ (List.mem_append_right _ (List.mem_append_right _ (List.mem_append_right _ (List.mem_append_right _ (List.mem_append_right _ (List.mem_append_right _ (List.mem_append_right _ (List.mem_append_right _ (List.mem_append_right _ (List.mem_append_right _ (List.mem_append_right _ (List.mem_append_right _ (List.mem_append_right _ (List.mem_append_right _ (List.mem_append_right _ (List.mem_append_right _ (List.mem_append_right _ (List.mem_append_right _ (List.mem_append_right _ (List.mem_append_right _ (List.mem_append_right _ (List.mem_append_right _ (List.mem_append_right _ (List.mem_append_right _ (List.mem_append_right _ (List.mem_append_left _ h)))))))))))))))))))))))))))))))
theorem in_gc_22 : ∀ w ∈ gc_22, w ∈ gw_T := fun _ h => List.mem_append_right _ (List.mem_append_right _ (List.mem_append_right _ (List.mem_append_right _ (List.mem_append_right _ (List.mem_append_right _ (List.mem_append_right _ (List.mem_append_right _ (List.mem_append_right _ (List.mem_append_right _ (List.mem_append_right _ (List.mem_append_right _ (List.mem_append_right _ (List.mem_append_right _ (List.mem_append_right _ (List.mem_append_right _ (List.mem_append_right _ (List.mem_append_right _ (List.mem_append_right _ (List.mem_append_right _ (List.mem_append_right _ (List.mem_append_right _ (List.mem_append_right _ (List.mem_append_right _ (List.mem_append_right _ (List.mem_append_right _ (List.mem_append_right _ (List.mem_append_right _ (List.mem_append_right _ (List.mem_append_right _ (List.mem_append_right _ (List.mem_append_right _ (List.mem_append_left _ h))))))))))))))))))))))))))))))))
theorem in_gc_23 : ∀ w ∈ gc_23, w ∈ gw_T := fun _ h => List.mem_append_right _ (List.mem_append_right _ (List.mem_append_right _ (List.mem_append_right _ (List.mem_append_right _ (List.mem_append_right _ (List.mem_append_right _ (List.mem_append_right _ (List.mem_append_right _ (List.mem_append_right _ (List.mem_append_right _ (List.mem_append_right _ (List.mem_append_right _ (List.mem_append_right _ (List.mem_append_right _ (List.mem_append_right _ (List.mem_append_right _ (List.mem_append_right _ (List.mem_append_right _ (List.mem_append_right _ (List.mem_append_right _ (List.mem_append_right _ (List.mem_append_right _ (List.mem_append_right _ (List.mem_append_right _ (List.mem_append_right _ (List.mem_append_right _ (List.mem_append_right _ (List.mem_append_right _ (List.mem_append_right _ (List.mem_append_right _ (List.mem_append_right _ (List.mem_append_right _ (List.mem_append_left _ h)))))))))))))))))))))))))))))))))
theorem in_gc_24 : ∀ w ∈ gc_24, w ∈ gw_T := fun _ h => List.mem_append_right _ (List.mem_append_right _ (List.mem_append_right _ (List.mem_append_right _ (List.mem_append_right _ (List.mem_append_right _ (List.mem_append_right _ (List.mem_append_right _ (List.mem_append_right _ (List.mem_append_right _ (List.mem_append_right _ (List.mem_append_right _ (List.mem_append_right _ (List.mem_append_right _ (List.mem_append_right _ (List.mem_append_right _ (List.mem_append_right _ (List.mem_append_right _ (List.mem_append_right _ (List.mem_append_right _ (List.mem_append_right _ (List.mem_append_right _ (List.mem_append_right _ (List.mem_append_right _ (List.mem_append_right _ (List.mem_append_right _ (List.mem_append_right _ (List.mem_append_right _ (List.mem_append_right _ (List.mem_append_right _ (List.mem_append_right _ (List.mem_append_right _ (List.mem_append_right _ (List.mem_append_right _ (List.mem_append_left _ h))))))))))))))))))))))))))))))))))
theorem in_gc_25 : ∀ w ∈ gc_25, w ∈ gw_T := fun _ h => List.mem_append_right _ (List.mem_append_right _ (List.mem_append_right _ (List.mem_append_right _ (List.mem_append_right _ (List.mem_append_right _ (List.mem_append_right _ (List.mem_append_right _ (List.mem_append_right _ (List.mem_append_right _ (List.mem_append_right _ (List.mem_append_right _ (List.mem_append_right _ (List.mem_append_right _ (List.mem_append_right _ (List.mem_append_right _ (List.mem_append_right _ (List.mem_append_right _ (List.mem_append_right _ (List.mem_append_right _ (List.mem_append_right _ (List.mem_append_right _ (List.mem_append_right _ (List.mem_append_right _ (List.mem_append_right _ (List.mem_append_right _ (List.mem_append_right _ (List.mem_append_right _ (List.mem_append_right _ (List.mem_append_right _ (List.mem_append_right _ (List.mem_append_right _ (List.mem_append_right _ (List.mem_append_right _ (List.mem_append_right _ (List.mem_append_left _ h)))))))))))))))))))))))))))))))))))
theorem in_gc_26 : ∀ w ∈ gc_26, w ∈ gw_T := fun _ h => List.mem_append_right _ (List.mem_append_right _ (List.mem_append_right _ (List.mem_append_right _ (List.mem_append_right _ (List.mem_append_right _ (List.mem_append_right _ (List.mem_append_right _ (List.mem_append_right _ (List.mem_append_right _ (List.mem_append_right _ (List.mem_append_right _ (List.mem_append_right _ (List.mem_append_right _ (List.mem_append_right _ (List.mem_append_right _ (List.mem_append_right _ (List.mem_append_right _ (List.mem_append_right _ (List.mem_append_right _ (List.mem_append_right _ (List.mem_append_right _ (List.mem_append_right _ (List.mem_append_right _ (List.mem_append_right _ (List.mem_append_right _ (List.mem_append_right _ (List.mem_append_right _ (List.mem_append_right _ (List.mem_append_right _ (List.mem_append_right _ (List.mem_append_right _ (List.mem_append_right _ (List.mem_append_right _ (List.mem_append_right _ (List.mem_append_right _ (List.mem_append_left _ h))))))))))))))))))))))))))))))))))))
theorem in_gc_27 : ∀ w ∈ gc_27, w ∈ gw_T := fun _ h => List.mem_append_right _ (List.mem_append_right _ (List.mem_append_right _ (List.mem_append_right _ (List.mem_append_right _ (List.mem_append_right _ (List.mem_append_right _ (List.mem_append_right _ (List.mem_append_right _ (List.mem_append_right _ (List.mem_append_right _ (List.mem_append_right _ (List.mem_append_right _ (List.mem_append_right _ (List.mem_append_right _ (List.mem_append_right _ (List.mem_append_right _ (List.mem_append_right _ (List.mem_append_right _ (List.mem_append_right _ (List.mem_append_right _ (List.mem_append_right _ (List.mem_append_right _ (List.mem_append_right _ (List.mem_append_right _ (List.mem_append_right _ (List.mem_append_right _ (List.mem_append_right _ (List.mem_append_right _ (List.mem_append_right _ (List.mem_append_right _ (List.mem_append_right _ (List.mem_append_right _ (List.mem_append_right _ (List.mem_append_right _ (List.mem_append_right _ (List.mem_append_right _ (List.mem_append_left _ h)))))))))))))))))))))))))))))))))))))
theorem in_gc_28 : ∀ w ∈ gc_28, w ∈ gw_T := fun _ h => List.mem_append_right _ (List.mem_append_right _ (List.mem_append_right _ (List.mem_append_right _ (List.mem_append_right _ (List.mem_append_right _ (List.mem_append_right _ (List.mem_append_right _ (List.mem_append_right _ (List.mem_append_right _ (List.mem_append_right _ (List.mem_append_right _ (List.mem_append_right _ (List.mem_append_right _ (List.mem_append_right _ (List.mem_append_right _ (List.mem_append_right _ (List.mem_append_right _ (List.mem_append_right _ (List.mem_append_right _ (List.mem_append_right _ (List.mem_append_right _ (List.mem_append_right _ (List.mem_append_right _ (List.mem_append_right _ (List.mem_append_right _ (List.mem_append_right _ (List.mem_append_right _ (List.mem_append_right _ (List.mem_append_right _ (List.mem_append_right _ (List.mem_append_right _ (List.mem_append_right _ (List.mem_append_right _ (List.mem_append_right _ (List.mem_append_right _ (List.mem_append_right _ (List.mem_append_right _ (List.mem_append_left _ h))))))))))))))))))))))))))))))))))))))
theorem in_gc_29 : ∀ w ∈ gc_29, w ∈ gw_T := fun _ h => List.mem_append_right _ (List.mem_append_right _ (List.mem_append_right _ (List.mem_append_right _ (List.mem_append_right _ (List.mem_append_right _ (List.mem_append_right _ (List.mem_append_right _ (List.mem_append_right _ (List.mem_append_right _ (List.mem_append_right _ (List.mem_append_right _ (List.mem_append_right _ (List.mem_append_right _ (List.mem_append_right _ (List.mem_append_right _ (List.mem_append_right _ (List.mem_append_right _ (List.mem_append_right _ (List.mem_append_right _ (List.mem_append_right _ (List.mem_append_right _ (List.mem_append_right _ (List.mem_append_right _ (List.mem_append_right _ (List.mem_append_right _ (List.mem_append_right _ (List.mem_append_right _ (List.mem_append_right _ (List.mem_append_right _ (List.mem_append_right _ (List.mem_append_right _ (List.mem_append_right _ (List.mem_append_right _ (List.mem_append_right _ (List.mem_append_right _ (List.mem_append_right _ (List.mem_append_right _ (List.mem_append_right _ (List.mem_append_left _ h)))))))))))))))))))))))))))))))))))))))
theorem in_gc_30 : ∀ w ∈ gc_30, w ∈ gw_T := fun _ h => List.mem_append_right _ (List.mem_append_right _ (List.mem_append_right _ (List.mem_append_right _ (List.mem_append_right _ (List.mem_append_right _ (List.mem_append_right _ (List.mem_append_right _ (List.mem_append_right _ (List.mem_append_right _ (List.mem_append_right _ (List.mem_append_right _ (List.mem_append_right _ (List.mem_append_right _ (List.mem_append_right _ (List.mem_append_right _ (List.mem_append_right _ (List.mem_append_right _ (List.mem_append_right _ (List.mem_append_right _ (List.mem_append_right _ (List.mem_append_right _ (List.mem_append_right _ (List.mem_append_right _ (List.mem_append_right _ (List.mem_append_right _ (List.mem_append_right _ (List.mem_append_right _ (List.mem_append_right _ (List.mem_append_right _ (List.mem_append_right _ (List.mem_append_right _ (List.mem_append_right _ (List.mem_append_right _ (List.mem_append_right _ (List.mem_append_right _ (List.mem_append_right _ (List.mem_append_right _ (List.mem_append_right _ (List.mem_append_right _ (List.mem_append_left _ h))))))))))))))))))))))))))))))))))))))))
theorem in_gc_31 : ∀ w ∈ gc_31, w ∈ gw_T := fun _ h => List.mem_append_right _ (List.mem_append_right _ (List.mem_append_right _ (List.mem_append_right _ (List.mem_append_right _ (List.mem_append_right _ (List.mem_append_right _ (List.mem_append_right _ (List.mem_append_right _ (List.mem_append_right _ (List.mem_append_right _ (List.mem_append_right _ (List.mem_append_right _ (List.mem_append_right _ (List.mem_append_right _ (List.mem_append_right _ (List.mem_append_right _ (List.mem_append_right _ (List.mem_append_right _ (List.mem_append_right _ (List.mem_append_right _ (List.mem_append_right _ (List.mem_append_right _ (List.mem_append_right _ (List.mem_append_right _ (List.mem_append_right _ (List.mem_append_right _ (List.mem_append_right _ (List.mem_append_right _ (List.mem_append_right _ (List.mem_append_right _ (List.mem_append_right _ (List.mem_append_right _ (List.mem_append_right _ (List.mem_append_right _ (List.mem_append_right _ (List.mem_append_right _ (List.mem_append_right _ (List.mem_append_right _ (List.mem_append_right _ (List.mem_append_right _ (List.mem_append_left _ h)))))))))))))))))))))))))))))))))))))))))
theorem in_gc_32 : ∀ w ∈ gc_32, w ∈ gw_T := fun _ h => List.mem_append_right _ (List.mem_append_right _ (List.mem_append_right _ (List.mem_append_right _ (List.mem_append_right _ (List.mem_append_right _ (List.mem_append_right _ (List.mem_append_right _ (List.mem_append_right _ (List.mem_append_right _ (List.mem_append_right _ (List.mem_append_right _ (List.mem_append_right _ (List.mem_append_right _ (List.mem_append_right _ (List.mem_append_right _ (List.mem_append_right _ (List.mem_append_right _ (List.mem_append_right _ (List.mem_append_right _ (List.mem_append_right _ (List.mem_append_right _ (List.mem_append_right _ (List.mem_append_right _ (List.mem_append_right _ (List.mem_append_right _ (List.mem_append_right _ (List.mem_append_right _ (List.mem_append_right _ (List.mem_append_right _ (List.mem_append_right _ (List.mem_append_right _ (List.mem_append_right _ (List.mem_append_right _ (List.mem_append_right _ (List.mem_append_right _ (List.mem_append_right _ (List.mem_append_right _ (List.mem_append_right _ (List.mem_append_right _ (List.mem_append_right _ (List.mem_append_right _ (List.mem_append_left _ h))))))))))))))))))))))))))))))))))))))))))
theorem in_gc_33 : ∀ w ∈ gc_33, w ∈ gw_T := fun _ h => List.mem_append_right _ (List.mem_append_right _ (List.mem_append_right _ (List.mem_append_right _ (List.mem_append_right _ (List.mem_append_right _ (List.mem_append_right _ (List.mem_append_right _ (List.mem_append_right _ (List.mem_append_right _ (List.mem_append_right _ (List.mem_append_right _ (List.mem_append_right _ (List.mem_append_right _ (List.mem_append_right _ (List.mem_append_right _ (List.mem_append_right _ (List.mem_append_right _ (List.mem_append_right _ (List.mem_append_right _ (List.mem_append_right _ (List.mem_append_right _ (List.mem_append_right _ (List.mem_append_right _ (List.mem_append_right _ (List.mem_append_right _ (List.mem_append_right _ (List.mem_append_right _ (List.mem_append_right _ (List.mem_append_right _ (List.mem_append_right _ (List.mem_append_right _ (List.mem_append_right _ (List.mem_append_right _ (List.mem_append_right _ (List.mem_append_right _ (List.mem_append_right _ (List.mem_append_right _ (List.mem_append_right _ (List.mem_append_right _ (List.mem_append_right _ (List.mem_append_right _ (List.mem_append_right _ (List.mem_append_left _ h)))))))))))))))))))))))))))))))))))))))))))
theorem in_gc_34 : ∀ w ∈ gc_34, w ∈ gw_T := fun _ h => List.mem_append_right _ (List.mem_append_right _ (List.mem_append_right _ (List.mem_append_right _ (List.mem_append_right _ (List.mem_append_right _ (List.mem_append_right _ (List.mem_append_right _ (List.mem_append_right _ (List.mem_append_right _ (List.mem_append_right _ (List.mem_append_right _ (List.mem_append_right _ (List.mem_append_right _ (List.mem_append_right _ (List.mem_append_right _ (List.mem_append_right _ (List.mem_append_right _ (List.mem_append_right _ (List.mem_append_right _ (List.mem_append_right _ (List.mem_append_right _ (List.mem_append_right _ (List.mem_append_right _ (List.mem_append_right _ (List.mem_append_right _ (List.mem_append_right _ (List.mem_append_right _ (List.mem_append_right _ (List.mem_append_right _ (List.mem_append_right _ (List.mem_append_right _ (List.mem_append_right _ (List.mem_append_right _ (List.mem_append_right _ (List.mem_append_right _ (List.mem_append_right _ (List.mem_append_right _ (List.mem_append_right _ (List.mem_append_right _ (List.mem_append_right _ (List.mem_append_right _ (List.mem_append_right _ (List.mem_append_right _ (List.mem_append_left _ h))))))))))))))))))))))))))))))))))))))))))))
theorem in_gc_35 : ∀ w ∈ gc_35, w ∈ gw_T := fun _ h => List.mem_append_right _ (List.mem_append_right _ (List.mem_append_right _ (List.mem_append_right _ (List.mem_append_right _ (List.mem_append_right _ (List.mem_append_right _ (List.mem_append_right _ (List.mem_append_right _ (List.mem_append_right _ (List.mem_append_right _ (List.mem_append_right _ (List.mem_append_right _ (List.mem_append_right _ (List.mem_append_right _ (List.mem_append_right _ (List.mem_append_right _ (List.mem_append_right _ (List.mem_append_right _ (List.mem_append_right _ (List.mem_append_right _ (List.mem_append_right _ (List.mem_append_right _ (List.mem_append_right _ (List.mem_append_right _ (List.mem_append_right _ (List.mem_append_right _ (List.mem_append_right _ (List.mem_append_right _ (List.mem_append_right _ (List.mem_append_right _ (List.mem_append_right _ (List.mem_append_right _ (List.mem_append_right _ (List.mem_append_right _ (List.mem_append_right _ (List.mem_append_right _ (List.mem_append_right _ (List.mem_append_right _ (List.mem_append_right _ (List.mem_append_right _ (List.mem_append_right _ (List.mem_append_right _ (List.mem_append_right _ (List.mem_append_right _ (List.mem_append_left _ h)))))))))))))))))))))))))))))))))))))))))))))
theorem in_gc_36 : ∀ w ∈ gc_36, w ∈ gw_T := fun _ h => List.mem_append_right _ (List.mem_append_right _ (List.mem_append_right _ (List.mem_append_right _ (List.mem_append_right _ (List.mem_append_right _ (List.mem_append_right _ (List.mem_append_right _ (List.mem_append_right _ (List.mem_append_right _ (List.mem_append_right _ (List.mem_append_right _ (List.mem_append_right _ (List.mem_append_right _ (List.mem_append_right _ (List.mem_append_right _ (List.mem_append_right _ (List.mem_append_right _ (List.mem_append_right _ (List.mem_append_right _ (List.mem_append_right _ (List.mem_append_right _ (List.mem_append_right _ (List.mem_append_right _ (List.mem_append_right _ (List.mem_append_right _ (List.mem_append_right _ (List.mem_append_right _ (List.mem_append_right _ (List.mem_append_right _ (List.mem_append_right _ (List.mem_append_right _ (List.mem_append_right _ (List.mem_append_right _ (List.mem_append_right _ (List.mem_append_right _ (List.mem_append_right _ (List.mem_append_right _ (List.mem_append_right _ (List.mem_append_right _ (List.mem_append_right _ (List.mem_append_right _ (List.mem_append_right _ (List.mem_append_right _ (List.mem_append_right _ (List.mem_append_right _ (List.mem_append_left _ h))))))))))))))))))))))))))))))))))))))))))))))
theorem in_gc_37 : ∀ w ∈ gc_37, w ∈ gw_T := fun _ h => List.mem_append_right _ (List.mem_append_right _ (List.mem_append_right _ (List.mem_append_right _ (List.mem_append_right _ (List.mem_append_right _ (List.mem_append_right _ (List.mem_append_right _ (List.mem_append_right _ (List.mem_append_right _ (List.mem_append_right _ (List.mem_append_right _ (List.mem_append_right _ (List.mem_append_right _ (List.mem_append_right _ (List.mem_append_right _ (List.mem_append_right _ (List.mem_append_right _ (List.mem_append_right _ (List.mem_append_right _ (List.mem_append_right _ (List.mem_append_right _ (List.mem_append_right _ (List.mem_append_right _ (List.mem_append_right _ (List.mem_append_right _ (List.mem_append_right _ (List.mem_append_right _ (List.mem_append_right _ (List.mem_append_right _ (List.mem_append_right _ (List.mem_append_right _ (List.mem_append_right _ (List.mem_append_right _ (List.mem_append_right _ (List.mem_append_right _ (List.mem_append_right _ (List.mem_append_right _ (List.mem_append_right _ (List.mem_append_right _ (List.mem_append_right _ (List.mem_append_right _ (List.mem_append_right _ (List.mem_append_right _ (List.mem_append_right _ (List.mem_append_right _ (List.mem_append_right _ (List.mem_append_left _ h)))))))))))))))))))))))))))))))))))))))))))))))
theorem in_gc_38 : ∀ w ∈ gc_38, w ∈ gw_T := fun _ h => List.mem_append_right _ (List.mem_append_right _ (List.mem_append_right _ (List.mem_append_right _ (List.mem_append_right _ (List.mem_append_right _ (List.mem_append_right _ (List.mem_append_right _ (List.mem_append_right _ (List.mem_append_right _ (List.mem_append_right _ (List.mem_append_right _ (List.mem_append_right _ (List.mem_append_right _ (List.mem_append_right _ (List.mem_append_right _ (List.mem_append_right _ (List.mem_append_right _ (List.mem_append_right _ (List.mem_append_right _ (List.mem_append_right _ (List.mem_append_right _ (List.mem_append_right _ (List.mem_append_right _ (List.mem_append_right _ (List.mem_append_right _ (List.mem_append_right _ (List.mem_append_right _ (List.mem_append_right _ (List.mem_append_right _ (List.mem_append_right _ (List.mem_append_right _ (List.mem_append_right _ (List.mem_append_right _ (List.mem_append_right _ (List.mem_append_right _ (List.mem_append_right _ (List.mem_append_right _ (List.mem_append_right _ (List.mem_append_right _ (List.mem_append_right _ (List.mem_append_right _ (List.mem_append_right _ (List.mem_append_right _ (List.mem_append_right _ (List.mem_append_right _ (List.mem_append_right _ (List.mem_append_right _ (List.mem_append_left _ h))))))))))))))))))))))))))))))))))))))))))))))))
theorem in_gc_39 : ∀ w ∈ gc_39, w ∈ gw_T := fun _ h => List.mem_append_right _ (List.mem_append_right _ (List.mem_append_right _ (List.mem_append_right _ (List.mem_append_right _ (List.mem_append_right _ (List.mem_append_right _ (List.mem_append_right _ (List.mem_append_right _ (List.mem_append_right _ (List.mem_append_right _ (List.mem_append_right _ (List.mem_append_right _ (List.mem_append_right _ (List.mem_append_right _ (List.mem_append_right _ (List.mem_append_right _ (List.mem_append_right _ (List.mem_append_right _ (List.mem_append_right _ (List.mem_append_right _ (List.mem_append_right _ (List.mem_append_right _ (List.mem_append_right _ (List.mem_append_right _ (List.mem_append_right _ (List.mem_append_right _ (List.mem_append_right _ (List.mem_append_right _ (List.mem_append_right _ (List.mem_append_right _ (List.mem_append_right _ (List.mem_append_right _ (List.mem_append_right _ (List.mem_append_right _ (List.mem_append_right _ (List.mem_append_right _ (List.mem_append_right _ (List.mem_append_right _ (List.mem_append_right _ (List.mem_append_right _ (List.mem_append_right _ (List.mem_append_right _ (List.mem_append_right _ (List.mem_append_right _ (List.mem_append_right _ (List.mem_append_right _ (List.mem_append_right _ (List.mem_append_right _ (List.mem_append_left _ h)))))))))))))))))))))))))))))))))))))))))))))))))
theorem in_gc_40 : ∀ w ∈ gc_40, w ∈ gw_T := fun _ h => List.mem_append_right _ (List.mem_append_right _ (List.mem_append_right _ (List.mem_append_right _ (List.mem_append_right _ (List.mem_append_right _ (List.mem_append_right _ (List.mem_append_right _ (List.mem_append_right _ (List.mem_append_right _ (List.mem_append_right _ (List.mem_append_right _ (List.mem_append_right _ (List.mem_append_right _ (List.mem_append_right _ (List.mem_append_right _ (List.mem_append_right _ (List.mem_append_right _ (List.mem_append_right _ (List.mem_append_right _ (List.mem_append_right _ (List.mem_append_right _ (List.mem_append_right _ (List.mem_append_right _ (List.mem_append_right _ (List.mem_append_right _ (List.mem_append_right _ (List.mem_append_right _ (List.mem_append_right _ (List.mem_append_right _ (List.mem_append_right _ (List.mem_append_right _ (List.mem_append_right _ (List.mem_append_right _ (List.mem_append_right _ (List.mem_append_right _ (List.mem_append_right _ (List.mem_append_right _ (List.mem_append_right _ (List.mem_append_right _ (List.mem_append_right _ (List.mem_append_right _ (List.mem_append_right _ (List.mem_append_right _ (List.mem_append_right _ (List.mem_append_right _ (List.mem_append_right _ (List.mem_append_right _ (List.mem_append_right _ (List.mem_append_right _ (List.mem_append_left _ h))))))))))))))))))))))))))))))))))))))))))))))))))
theorem in_gc_41 : ∀ w ∈ gc_41, w ∈ gw_T := fun _ h => List.mem_append_right _ (List.mem_append_right _ (List.mem_append_right _ (List.mem_append_right _ (List.mem_append_right _ (List.mem_append_right _ (List.mem_append_right _ (List.mem_append_right _ (List.mem_append_right _ (List.mem_append_right _ (List.mem_append_right _ (List.mem_append_right _ (List.mem_append_right _ (List.mem_append_right _ (List.mem_append_right _ (List.mem_append_right _ (List.mem_append_right _ (List.mem_append_right _ (List.mem_append_right _ (List.mem_append_right _ (List.mem_append_right _ (List.mem_append_right _ (List.mem_append_right _ (List.mem_append_right _ (List.mem_append_right _ (List.mem_append_right _ (List.mem_append_right _ (List.mem_append_right _ (List.mem_append_right _ (List.mem_append_right _ (List.mem_append_right _ (List.mem_append_right _ (List.mem_append_right _ (List.mem_append_right _ (List.mem_append_right _ (List.mem_append_right _ (List.mem_append_right _ (List.mem_append_right _ (List.mem_append_right _ (List.mem_append_right _ (List.mem_append_right _ (List.mem_append_right _ (List.mem_append_right _ (List.mem_append_right _ (List.mem_append_right _ (List.mem_append_right _ (List.mem_append_right _ (List.mem_append_right _ (List.mem_append_right _ (List.mem_append_right _ (List.mem_append_right _ (List.mem_append_left _ h)))))))))))))))))))))))))))))))))))))))))))))))))))
theorem in_gc_42 : ∀ w ∈ gc_42, w ∈ gw_T := fun _ h => List.mem_append_right _ (List.mem_append_right _ (List.mem_append_right _ (List.mem_append_right _ (List.mem_append_right _ (List.mem_append_right _ (List.mem_append_right _ (List.mem_append_right _ (List.mem_append_right _ (List.mem_append_right _ (List.mem_append_right _ (List.mem_append_right _ (List.mem_append_right _ (List.mem_append_right _ (List.mem_append_right _ (List.mem_append_right _ (List.mem_append_right _ (List.mem_append_right _ (List.mem_append_right _ (List.mem_append_right _ (List.mem_append_right _ (List.mem_append_right _ (List.mem_append_right _ (List.mem_append_right _ (List.mem_append_right _ (List.mem_append_right _ (List.mem_append_right _ (List.mem_append_right _ (List.mem_append_right _ (List.mem_append_right _ (List.mem_append_right _ (List.mem_append_right _ (List.mem_append_right _ (List.mem_append_right _ (List.mem_append_right _ (List.mem_append_right _ (List.mem_append_right _ (List.mem_append_right _ (List.mem_append_right _ (List.mem_append_right _ (List.mem_append_right _ (List.mem_append_right _ (List.mem_append_right _ (List.mem_append_right _ (List.mem_append_right _ (List.mem_append_right _ (List.mem_append_right _ (List.mem_append_right _ (List.mem_append_right _ (List.mem_append_right _ (List.mem_append_right _ (List.mem_append_right _ (List.mem_append_left _ h))))))))))))))))))))))))))))))))))))))))))))))))))))
theorem in_gc_43 : ∀ w ∈ gc_43, w ∈ gw_T := fun _ h => List.mem_append_right _ (List.mem_append_right _ (List.mem_append_right _ (List.mem_append_right _ (List.mem_append_right _ (List.mem_append_right _ (List.mem_append_right _ (List.mem_append_right _ (List.mem_append_right _ (List.mem_append_right _ (List.mem_append_right _ (List.mem_append_right _ (List.mem_append_right _ (List.mem_append_right _ (List.mem_append_right _ (List.mem_append_right _ (List.mem_append_right _ (List.mem_append_right _ (List.mem_append_right _ (List.mem_append_right _ (List.mem_append_right _ (List.mem_append_right _ (List.mem_append_right _ (List.mem_append_right _ (List.mem_append_right _ (List.mem_append_right _ (List.mem_append_right _ (List.mem_append_right _ (List.mem_append_right _ (List.mem_append_right _ (List.mem_append_right _ (List.mem_append_right _ (List.mem_append_right _ (List.mem_append_right _ (List.mem_append_right _ (List.mem_append_right _ (List.mem_append_right _ (List.mem_append_right _ (List.mem_append_right _ (List.mem_append_right _ (List.mem_append_right _ (List.mem_append_right _ (List.mem_append_right _ (List.mem_append_right _ (List.mem_append_right _ (List.mem_append_right _ (List.mem_append_right _ (List.mem_append_right _ (List.mem_append_right _ (List.mem_append_right _ (List.mem_append_right _ (List.mem_append_right _ (List.mem_append_right _ (List.mem_append_left _ h)))))))))))))))))))))))))))))))))))))))))))))))))))))
theorem in_gc_44 : ∀ w ∈ gc_44, w ∈ gw_T := fun _ h => List.mem_append_right _ (List.mem_append_right _ (List.mem_append_right _ (List.mem_append_right _ (List.mem_append_right _ (List.mem_append_right _ (List.mem_append_right _ (List.mem_append_right _ (List.mem_append_right _ (List.mem_append_right _ (List.mem_append_right _ (List.mem_append_right _ (List.mem_append_right _ (List.mem_append_right _ (List.mem_append_right _ (List.mem_append_right _ (List.mem_append_right _ (List.mem_append_right _ (List.mem_append_right _ (List.mem_append_right _ (List.mem_append_right _ (List.mem_append_right _ (List.mem_append_right _ (List.mem_append_right _ (List.mem_append_right _ (List.mem_append_right _ (List.mem_append_right _ (List.mem_append_right _ (List.mem_append_right _ (List.mem_append_right _ (List.mem_append_right _ (List.mem_append_right _ (List.mem_append_right _ (List.mem_append_right _ (List.mem_append_right _ (List.mem_append_right _ (List.mem_append_right _ (List.mem_append_right _ (List.mem_append_right _ (List.mem_append_right _ (List.mem_append_right _ (List.mem_append_right _ (List.mem_append_right _ (List.mem_append_right _ (List.mem_append_right _ (List.mem_append_right _ (List.mem_append_right _ (List.mem_append_right _ (List.mem_append_right _ (List.mem_append_right _ (List.mem_append_right _ (List.mem_append_right _ (List.mem_append_right _ (List.mem_append_right _ (List.mem_append_left _ h))))))))))))))))))))))))))))))))))))))))))))))))))))))
theorem in_gc_45 : ∀ w ∈ gc_45, w ∈ gw_T := fun _ h => List.mem_append_right _ (List.mem_append_right _ (List.mem_append_right _ (List.mem_append_right _ (List.mem_append_right _ (List.mem_append_right _ (List.mem_append_right _ (List.mem_append_right _ (List.mem_append_right _ (List.mem_append_right _ (List.mem_append_right _ (List.mem_append_right _ (List.mem_append_right _ (List.mem_append_right _ (List.mem_append_right _ (List.mem_append_right _ (List.mem_append_right _ (List.mem_append_right _ (List.mem_append_right _ (List.mem_append_right _ (List.mem_append_right _ (List.mem_append_right _ (List.mem_append_right _ (List.mem_append_right _ (List.mem_append_right _ (List.mem_append_right _ (List.mem_append_right _ (List.mem_append_right _ (List.mem_append_right _ (List.mem_append_right _ (List.mem_append_right _ (List.mem_append_right _ (List.mem_append_right _ (List.mem_append_right _ (List.mem_append_right _ (List.mem_append_right _ (List.mem_append_right _ (List.mem_append_right _ (List.mem_append_right _ (List.mem_append_right _ (List.mem_append_right _ (List.mem_append_right _ (List.mem_append_right _ (List.mem_append_right _ (List.mem_append_right _ (List.mem_append_right _ (List.mem_append_right _ (List.mem_append_right _ (List.mem_append_right _ (List.mem_append_right _ (List.mem_append_right _ (List.mem_append_right _ (List.mem_append_right _ (List.mem_append_right _ (List.mem_append_right _ (List.mem_append_left _ h)))))))))))))))))))))))))))))))))))))))))))))))))))))))
theorem in_gc_46 : ∀ w ∈ gc_46, w ∈ gw_T := fun _ h => List.mem_append_right _ (List.mem_append_right _ (List.mem_append_right _ (List.mem_append_right _ (List.mem_append_right _ (List.mem_append_right _ (List.mem_append_right _ (List.mem_append_right _ (List.mem_append_right _ (List.mem_append_right _ (List.mem_append_right _ (List.mem_append_right _ (List.mem_append_right _ (List.mem_append_right _ (List.mem_append_right _ (List.mem_append_right _ (List.mem_append_right _ (List.mem_append_right _ (List.mem_append_right _ (List.mem_append_right _ (List.mem_append_right _ (List.mem_append_right _ (List.mem_append_right _ (List.mem_append_right _ (List.mem_append_right _ (List.mem_append_right _ (List.mem_append_right _ (List.mem_append_right _ (List.mem_append_right _ (List.mem_append_right _ (List.mem_append_right _ (List.mem_append_right _ (List.mem_append_right _ (List.mem_append_right _ (List.mem_append_right _ (List.mem_append_right _ (List.mem_append_right _ (List.mem_append_right _ (List.mem_append_right _ (List.mem_append_right _ (List.mem_append_right _ (List.mem_append_right _ (List.mem_append_right _ (List.mem_append_right _ (List.mem_append_right _ (List.mem_append_right _ (List.mem_append_right _ (List.mem_append_right _ (List.mem_append_right _ (List.mem_append_right _ (List.mem_append_right _ (List.mem_append_right _ (List.mem_append_right _ (List.mem_append_right _ (List.mem_append_right _ (List.mem_append_right _ (List.mem_append_left _ h))))))))))))))))))))))))))))))))))))))))))))))))))))))))
theorem in_gc_47 : ∀ w ∈ gc_47, w ∈ gw_T := fun _ h => List.mem_append_right _ (List.mem_append_right _ (List.mem_append_right _ (List.mem_append_right _ (List.mem_append_right _ (List.mem_append_right _ (List.mem_append_right _ (List.mem_append_right _ (List.mem_append_right _ (List.mem_append_right _ (List.mem_append_right _ (List.mem_append_right _ (List.mem_append_right _ (List.mem_append_right _ (List.mem_append_right _ (List.mem_append_right _ (List.mem_append_right _ (List.mem_append_right _ (List.mem_append_right _ (List.mem_append_right _ (List.mem_append_right _ (List.mem_append_right _ (List.mem_append_right _ (List.mem_append_right _ (List.mem_append_right _ (List.mem_append_right _ (List.mem_append_right _ (List.mem_append_right _ (List.mem_append_right _ (List.mem_append_right _ (List.mem_append_right _ (List.mem_append_right _ (List.mem_append_right _ (List.mem_append_right _ (List.mem_append_right _ (List.mem_append_right _ (List.mem_append_right _ (List.mem_append_right _ (List.mem_append_right _ (List.mem_append_right _ (List.mem_append_right _ (List.mem_append_right _ (List.mem_append_right _ (List.mem_append_right _ (List.mem_append_right _ (List.mem_append_right _ (List.mem_append_right _ (List.mem_append_right _ (List.mem_append_right _ (List.mem_append_right _ (List.mem_append_right _ (List.mem_append_right _ (List.mem_append_right _ (List.mem_append_right _ (List.mem_append_right _ (List.mem_append_right _ (List.mem_append_right _ (List.mem_append_left _ h)))))))))))))))))))))))))))))))))))))))))))))))))))))))))
theorem in_gc_48 : ∀ w ∈ gc_48, w ∈ gw_T := fun _ h => List.mem_append_right _ (List.mem_append_right _ (List.mem_append_right _ (List.mem_append_right _ (List.mem_append_right _ (List.mem_append_right _ (List.mem_append_right _ (List.mem_append_right _ (List.mem_append_right _ (List.mem_append_right _ (List.mem_append_right _ (List.mem_append_right _ (List.mem_append_right _ (List.mem_append_right _ (List.mem_append_right _ (List.mem_append_right _ (List.mem_append_right _ (List.mem_append_right _ (List.mem_append_right _ (List.mem_append_right _ (List.mem_append_right _ (List.mem_append_right _ (List.mem_append_right _ (List.mem_append_right _ (List.mem_append_right _ (List.mem_append_right _ (List.mem_append_right _ (List.mem_append_right _ (List.mem_append_right _ (List.mem_append_right _ (List.mem_append_right _ (List.mem_append_right _ (List.mem_append_right _ (List.mem_append_right _ (List.mem_append_right _ (List.mem_append_right _ (List.mem_append_right _ (List.mem_append_right _ (List.mem_append_right _ (List.mem_append_right _ (List.mem_append_right _ (List.mem_append_right _ (List.mem_append_right _ (List.mem_append_right _ (List.mem_append_right _ (List.mem_append_right _ (List.mem_append_right _ (List.mem_append_right _ (List.mem_append_right _ (List.mem_append_right _ (List.mem_append_right _ (List.mem_append_right _ (List.mem_append_right _ (List.mem_append_right _ (List.mem_append_right _ (List.mem_append_right _ (List.mem_append_right _ (List.mem_append_right _ (List.mem_append_left _ h))))))))))))))))))))))))))))))))))))))))))))))))))))))))))
theorem in_gc_49 : ∀ w ∈ gc_49, w ∈ gw_T := fun _ h => List.mem_append_right _ (List.mem_append_right _ (List.mem_append_right _ (List.mem_append_right _ (List.mem_append_right _ (List.mem_append_right _ (List.mem_append_right _ (List.mem_append_right _ (List.mem_append_right _ (List.mem_append_right _ (List.mem_append_right _ (List.mem_append_right _ (List.mem_append_right _ (List.mem_append_right _ (List.mem_append_right _ (List.mem_append_right _ (List.mem_append_right _ (List.mem_append_right _ (List.mem_append_right _ (List.mem_append_right _ (List.mem_append_right _ (List.mem_append_right _ (List.mem_append_right _ (List.mem_append_right _ (List.mem_append_right _ (List.mem_append_right _ (List.mem_append_right _ (List.mem_append_right _ (List.mem_append_right _ (List.mem_append_right _ (List.mem_append_right _ (List.mem_append_right _ (List.mem_append_right _ (List.mem_append_right _ (List.mem_append_right _ (List.mem_append_right _ (List.mem_append_right _ (List.mem_append_right _ (List.mem_append_right _ (List.mem_append_right _ (List.mem_append_right _ (List.mem_append_right _ (List.mem_append_right _ (List.mem_append_right _ (List.mem_append_right _ (List.mem_append_right _ (List.mem_append_right _ (List.mem_append_right _ (List.mem_append_right _ (List.mem_append_right _ (List.mem_append_right _ (List.mem_append_right _ (List.mem_append_right _ (List.mem_append_right _ (List.mem_append_right _ (List.mem_append_right _ (List.mem_append_right _ (List.mem_append_right _ (List.mem_append_right _ (List.mem_append_left _ h)))))))))))))))))))))))))))))))))))))))))))))))))))))))))))
theorem in_gc_50 : ∀ w ∈ gc_50, w ∈ gw_T := fun _ h => List.mem_append_right _ (List.mem_append_right _ (List.mem_append_right _ (List.mem_append_right _ (List.mem_append_right _ (List.mem_append_right _ (List.mem_append_right _ (List.mem_append_right _ (List.mem_append_right _ (List.mem_append_right _ (List.mem_append_right _ (List.mem_append_right _ (List.mem_append_right _ (List.mem_append_right _ (List.mem_append_right _ (List.mem_append_right _ (List.mem_append_right _ (List.mem_append_right _ (List.mem_append_right _ (List.mem_append_right _ (List.mem_append_right _ (List.mem_append_right _ (List.mem_append_right _ (List.mem_append_right _ (List.mem_append_right _ (List.mem_append_right _ (List.mem_append_right _ (List.mem_append_right _ (List.mem_append_right _ (List.mem_append_right _ (List.mem_append_right _ (List.mem_append_right _ (List.mem_append_right _ (List.mem_append_right _ (List.mem_append_right _ (List.mem_append_right _ (List.mem_append_right _ (List.mem_append_right _ (List.mem_append_right _ (List.mem_append_right _ (List.mem_append_right _ (List.mem_append_right _ (List.mem_append_right _ (List.mem_append_right _ (List.mem_append_right _ (List.mem_append_right _ (List.mem_append_right _ (List.mem_append_right _ (List.mem_append_right _ (List.mem_append_right _ (List.mem_append_right _ (List.mem_append_right _ (List.mem_append_right _ (List.mem_append_right _ (List.mem_append_right _ (List.mem_append_right _ (List.mem_append_right _ (List.mem_append_right _ (List.mem_append_right _ (List.mem_append_right _ (List.mem_append_left _ h))))))))))))))))))))))))))))))))))))))))))))))))))))))))))))
theorem in_gc_51 : ∀ w ∈ gc_51, w ∈ gw_T := fun _ h => List.mem_append_right _ (List.mem_append_right _ (List.mem_append_right _ (List.mem_append_right _ (List.mem_append_right _ (List.mem_append_right _ (List.mem_append_right _ (List.mem_append_right _ (List.mem_append_right _ (List.mem_append_right _ (List.mem_append_right _ (List.mem_append_right _ (List.mem_append_right _ (List.mem_append_right _ (List.mem_append_right _ (List.mem_append_right _ (List.mem_append_right _ (List.mem_append_right _ (List.mem_append_right _ (List.mem_append_right _ (List.mem_append_right _ (List.mem_append_right _ (List.mem_append_right _ (List.mem_append_right _ (List.mem_append_right _ (List.mem_append_right _ (List.mem_append_right _ (List.mem_append_right _ (List.mem_append_right _ (List.mem_append_right _ (List.mem_append_right _ (List.mem_append_right _ (List.mem_append_right _ (List.mem_append_right _ (List.mem_append_right _ (List.mem_append_right _ (List.mem_append_right _ (List.mem_append_right _ (List.mem_append_right _ (List.mem_append_right _ (List.mem_append_right _ (List.mem_append_right _ (List.mem_append_right _ (List.mem_append_right _ (List.mem_append_right _ (List.mem_append_right _ (List.mem_append_right _ (List.mem_append_right _ (List.mem_append_right _ (List.mem_append_right _ (List.mem_append_right _ (List.mem_append_right _ (List.mem_append_right _ (List.mem_append_right _ (List.mem_append_right _ (List.mem_append_right _ (List.mem_append_right _ (List.mem_append_right _ (List.mem_append_right _ (List.mem_append_right _ (List.mem_append_right _ (List.mem_append_left _ h)))))))))))))))))))))))))))))))))))))))))))))))))))))))))))))
theorem in_gc_52 : ∀ w ∈ gc_52, w ∈ gw_T := fun _ h => List.mem_append_right _ (List.mem_append_right _ (List.mem_append_right _ (List.mem_append_right _ (List.mem_append_right _ (List.mem_append_right _ (List.mem_append_right _ (List.mem_append_right _ (List.mem_append_right _ (List.mem_append_right _ (List.mem_append_right _ (List.mem_append_right _ (List.mem_append_right _ (List.mem_append_right _ (List.mem_append_right _ (List.mem_append_right _ (List.mem_append_right _ (List.mem_append_right _ (List.mem_append_right _ (List.mem_append_right _ (List.mem_append_right _ (List.mem_append_right _ (List.mem_append_right _ (List.mem_append_right _ (List.mem_append_right _ (List.mem_append_right _ (List.mem_append_right _ (List.mem_append_right _ (List.mem_append_right _ (List.mem_append_right _ (List.mem_append_right _ (List.mem_append_right _ (List.mem_append_right _ (List.mem_append_right _ (List.mem_append_right _ (List.mem_append_right _ (List.mem_append_right _ (List.mem_append_right _ (List.mem_append_right _ (List.mem_append_right _ (List.mem_append_right _ (List.mem_append_right _ (List.mem_append_right _ (List.mem_append_right _ (List.mem_append_right _ (List.mem_append_right _ (List.mem_append_right _ (List.mem_append_right _ (List.mem_append_right _ (List.mem_append_right _ (List.mem_append_right _ (List.mem_append_right _ (List.mem_append_right _ (List.mem_append_right _ (List.mem_append_right _ (List.mem_append_right _ (List.mem_append_right _ (List.mem_append_right _ (List.mem_append_right _ (List.mem_append_right _ (List.mem_append_right _ (List.mem_append_right _ (List.mem_append_left _ h))))))))))))))))))))))))))))))))))))))))))))))))))))))))))))))
theorem in_gc_53 : ∀ w ∈ gc_53, w ∈ gw_T := fun _ h => List.mem_append_right _ (List.mem_append_right _ (List.mem_append_right _ (List.mem_append_right _ (List.mem_append_right _ (List.mem_append_right _ (List.mem_append_right _ (List.mem_append_right _ (List.mem_append_right _ (List.mem_append_right _ (List.mem_append_right _ (List.mem_append_right _ (List.mem_append_right _ (List.mem_append_right _ (List.mem_append_right _ (List.mem_append_right _ (List.mem_append_right _ (List.mem_append_right _ (List.mem_append_right _ (List.mem_append_right _ (List.mem_append_right _ (List.mem_append_right _ (List.mem_append_right _ (List.mem_append_right _ (List.mem_append_right _ (List.mem_append_right _ (List.mem_append_right _ (List.mem_append_right _ (List.mem_append_right _ (List.mem_append_right _ (List.mem_append_right _ (List.mem_append_right _ (List.mem_append_right _ (List.mem_append_right _ (List.mem_append_right _ (List.mem_append_right _ (List.mem_append_right _ (List.mem_append_right _ (List.mem_append_right _ (List.mem_append_right _ (List.mem_append_right _ (List.mem_append_right _ (List.mem_append_right _ (List.mem_append_right _ (List.mem_append_right _ (List.mem_append_right _ (List.mem_append_right _ (List.mem_append_right _ (List.mem_append_right _ (List.mem_append_right _ (List.mem_append_right _ (List.mem_append_right _ (List.mem_append_right _ (List.mem_append_right _ (List.mem_append_right _ (List.mem_append_right _ (List.mem_append_right _ (List.mem_append_right _ (List.mem_append_right _ (List.mem_append_right _ (List.mem_append_right _ (List.mem_append_right _ (List.mem_append_right _ (List.mem_append_left _ h)))))))))))))))))))))))))))))))))))))))))))))))))))))))))))))))
theorem in_gc_54 : ∀ w ∈ gc_54, w ∈ gw_T := fun _ h => List.mem_append_right _ (List.mem_append_right _ (List.mem_append_right _ (List.mem_append_right _ (List.mem_append_right _ (List.mem_append_right _ (List.mem_append_right _ (List.mem_append_right _ (List.mem_append_right _ (List.mem_append_right _ (List.mem_append_right _ (List.mem_append_right _ (List.mem_append_right _ (List.mem_append_right _ (List.mem_append_right _ (List.mem_append_right _ (List.mem_append_right _ (List.mem_append_right _ (List.mem_append_right _ (List.mem_append_right _ (List.mem_append_right _ (List.mem_append_right _ (List.mem_append_right _ (List.mem_append_right _ (List.mem_append_right _ (List.mem_append_right _ (List.mem_append_right _ (List.mem_append_right _ (List.mem_append_right _ (List.mem_append_right _ (List.mem_append_right _ (List.mem_append_right _ (List.mem_append_right _ (List.mem_append_right _ (List.mem_append_right _ (List.mem_append_right _ (List.mem_append_right _ (List.mem_append_right _ (List.mem_append_right _ (List.mem_append_right _ (List.mem_append_right _ (List.mem_append_right _ (List.mem_append_right _ (List.mem_append_right _ (List.mem_append_right _ (List.mem_append_right _ (List.mem_append_right _ (List.mem_append_right _ (List.mem_append_right _ (List.mem_append_right _ (List.mem_append_right _ (List.mem_append_right _ (List.mem_append_right _ (List.mem_append_right _ (List.mem_append_right _ (List.mem_append_right _ (List.mem_append_right _ (List.mem_append_right _ (List.mem_append_right _ (List.mem_append_right _ (List.mem_append_right _ (List.mem_append_right _ (List.mem_append_right _ (List.mem_append_right _ (List.mem_append_left _ h))))))))))))))))))))))))))))))))))))))))))))))))))))))))))))))))
theorem in_gc_55 : ∀ w ∈ gc_55, w ∈ gw_T := fun _ h => List.mem_append_right _ (List.mem_append_right _ (List.mem_append_right _ (List.mem_append_right _ (List.mem_append_right _ (List.mem_append_right _ (List.mem_append_right _ (List.mem_append_right _ (List.mem_append_right _ (List.mem_append_right _ (List.mem_append_right _ (List.mem_append_right _ (List.mem_append_right _ (List.mem_append_right _ (List.mem_append_right _ (List.mem_append_right _ (List.mem_append_right _ (List.mem_append_right _ (List.mem_append_right _ (List.mem_append_right _ (List.mem_append_right _ (List.mem_append_right _ (List.mem_append_right _ (List.mem_append_right _ (List.mem_append_right _ (List.mem_append_right _ (List.mem_append_right _ (List.mem_append_right _ (List.mem_append_right _ (List.mem_append_right _ (List.mem_append_right _ (List.mem_append_right _ (List.mem_append_right _ (List.mem_append_right _ (List.mem_append_right _ (List.mem_append_right _ (List.mem_append_right _ (List.mem_append_right _ (List.mem_append_right _ (List.mem_append_right _ (List.mem_append_right _ (List.mem_append_right _ (List.mem_append_right _ (List.mem_append_right _ (List.mem_append_right _ (List.mem_append_right _ (List.mem_append_right _ (List.mem_append_right _ (List.mem_append_right _ (List.mem_append_right _ (List.mem_append_right _ (List.mem_append_right _ (List.mem_append_right _ (List.mem_append_right _ (List.mem_append_right _ (List.mem_append_right _ (List.mem_append_right _ (List.mem_append_right _ (List.mem_append_right _ (List.mem_append_right _ (List.mem_append_right _ (List.mem_append_right _ (List.mem_append_right _ (List.mem_append_right _ (List.mem_append_right _ (List.mem_append_left _ h)))))))))))))))))))))))))))))))))))))))))))))))))))))))))))))))))
theorem in_gc_56 : ∀ w ∈ gc_56, w ∈ gw_T := fun _ h => List.mem_append_right _ (List.mem_append_right _ (List.mem_append_right _ (List.mem_append_right _ (List.mem_append_right _ (List.mem_append_right _ (List.mem_append_right _ (List.mem_append_right _ (List.mem_append_right _ (List.mem_append_right _ (List.mem_append_right _ (List.mem_append_right _ (List.mem_append_right _ (List.mem_append_right _ (List.mem_append_right _ (List.mem_append_right _ (List.mem_append_right _ (List.mem_append_right _ (List.mem_append_right _ (List.mem_append_right _ (List.mem_append_right _ (List.mem_append_right _ (List.mem_append_right _ (List.mem_append_right _ (List.mem_append_right _ (List.mem_append_right _ (List.mem_append_right _ (List.mem_append_right _ (List.mem_append_right _ (List.mem_append_right _ (List.mem_append_right _ (List.mem_append_right _ (List.mem_append_right _ (List.mem_append_right _ (List.mem_append_right _ (List.mem_append_right _ (List.mem_append_right _ (List.mem_append_right _ (List.mem_append_right _ (List.mem_append_right _ (List.mem_append_right _ (List.mem_append_right _ (List.mem_append_right _ (List.mem_append_right _ (List.mem_append_right _ (List.mem_append_right _ (List.mem_append_right _ (List.mem_append_right _ (List.mem_append_right _ (List.mem_append_right _ (List.mem_append_right _ (List.mem_append_right _ (List.mem_append_right _ (List.mem_append_right _ (List.mem_append_right _ (List.mem_append_right _ (List.mem_append_right _ (List.mem_append_right _ (List.mem_append_right _ (List.mem_append_right _ (List.mem_append_right _ (List.mem_append_right _ (List.mem_append_right _ (List.mem_append_right _ (List.mem_append_right _ (List.mem_append_right _ (List.mem_append_left _ h))))))))))))))))))))))))))))))))))))))))))))))))))))))))))))))))))
theorem in_gc_57 : ∀ w ∈ gc_57, w ∈ gw_T := fun _ h => List.mem_append_right _ (List.mem_append_right _ (List.mem_append_right _ (List.mem_append_right _ (List.mem_append_right _ (List.mem_append_right _ (List.mem_append_right _ (List.mem_append_right _ (List.mem_append_right _ (List.mem_append_right _ (List.mem_append_right _ (List.mem_append_right _ (List.mem_append_right _ (List.mem_append_right _ (List.mem_append_right _ (List.mem_append_right _ (List.mem_append_right _ (List.mem_append_right _ (List.mem_append_right _ (List.mem_append_right _ (List.mem_append_right _ (List.mem_append_right _ (List.mem_append_right _ (List.mem_append_right _ (List.mem_append_right _ (List.mem_append_right _ (List.mem_append_right _ (List.mem_append_right _ (List.mem_append_right _ (List.mem_append_right _ (List.mem_append_right _ (List.mem_append_right _ (List.mem_append_right _ (List.mem_append_right _ (List.mem_append_right _ (List.mem_append_right _ (List.mem_append_right _ (List.mem_append_right _ (List.mem_append_right _ (List.mem_append_right _ (List.mem_append_right _ (List.mem_append_right _ (List.mem_append_right _ (List.mem_append_right _ (List.mem_append_right _ (List.mem_append_right _ (List.mem_append_right _ (List.mem_append_right _ (List.mem_append_right _ (List.mem_append_right _ (List.mem_append_right _ (List.mem_append_right _ (List.mem_append_right _ (List.mem_append_right _ (List.mem_append_right _ (List.mem_append_right _ (List.mem_append_right _ (List.mem_append_right _ (List.mem_append_right _ (List.mem_append_right _ (List.mem_append_right _ (List.mem_append_right _ (List.mem_append_right _ (List.mem_append_right _ (List.mem_append_right _ (List.mem_append_right _ (List.mem_append_right _ (List.mem_append_left _ h)))))))))))))))))))))))))))))))))))))))))))))))))))))))))))))))))))
theorem in_gc_58 : ∀ w ∈ gc_58, w ∈ gw_T := fun _ h => List.mem_append_right _ (List.mem_append_right _ (List.mem_append_right _ (List.mem_append_right _ (List.mem_append_right _ (List.mem_append_right _ (List.mem_append_right _ (List.mem_append_right _ (List.mem_append_right _ (List.mem_append_right _ (List.mem_append_right _ (List.mem_append_right _ (List.mem_append_right _ (List.mem_append_right _ (List.mem_append_right _ (List.mem_append_right _ (List.mem_append_right _ (List.mem_append_right _ (List.mem_append_right _ (List.mem_append_right _ (List.mem_append_right _ (List.mem_append_right _ (List.mem_append_right _ (List.mem_append_right _ (List.mem_append_right _ (List.mem_append_right _ (List.mem_append_right _ (List.mem_append_right _ (List.mem_append_right _ (List.mem_append_right _ (List.mem_append_right _ (List.mem_append_right _ (List.mem_append_right _ (List.mem_append_right _ (List.mem_append_right _ (List.mem_append_right _ (List.mem_append_right _ (List.mem_append_right _ (List.mem_append_right _ (List.mem_append_right _ (List.mem_append_right _ (List.mem_append_right _ (List.mem_append_right _ (List.mem_append_right _ (List.mem_append_right _ (List.mem_append_right _ (List.mem_append_right _ (List.mem_append_right _ (List.mem_append_right _ (List.mem_append_right _ (List.mem_append_right _ (List.mem_append_right _ (List.mem_append_right _ (List.mem_append_right _ (List.mem_append_right _ (List.mem_append_right _ (List.mem_append_right _ (List.mem_append_right _ (List.mem_append_right _ (List.mem_append_right _ (List.mem_append_right _ (List.mem_append_right _ (List.mem_append_right _ (List.mem_append_right _ (List.mem_append_right _ (List.mem_append_right _ (List.mem_append_right _ (List.mem_append_right _ (List.mem_append_left _ h))))))))))))))))))))))))))))))))))))))))))))))))))))))))))))))))))))
theorem in_gc_59 : ∀ w ∈ gc_59, w ∈ gw_T := fun _ h => List.mem_append_right _ (List.mem_append_right _ (List.mem_append_right _ (List.mem_append_right _ (List.mem_append_right _ (List.mem_append_right _ (List.mem_append_right _ (List.mem_append_right _ (List.mem_append_right _ (List.mem_append_right _ (List.mem_append_right _ (List.mem_append_right _ (List.mem_append_right _ (List.mem_append_right _ (List.mem_append_right _ (List.mem_append_right _ (List.mem_append_right _ (List.mem_append_right _ (List.mem_append_right _ (List.mem_append_right _ (List.mem_append_right _ (List.mem_append_right _ (List.mem_append_right _ (List.mem_append_right _ (List.mem_append_right _ (List.mem_append_right _ (List.mem_append_right _ (List.mem_append_right _ (List.mem_append_right _ (List.mem_append_right _ (List.mem_append_right _ (List.mem_append_right _ (List.mem_append_right _ (List.mem_append_right _ (List.mem_append_right _ (List.mem_append_right _ (List.mem_append_right _ (List.mem_append_right _ (List.mem_append_right _ (List.mem_append_right _ (List.mem_append_right _ (List.mem_append_right _ (List.mem_append_right _ (List.mem_append_right _ (List.mem_append_right _ (List.mem_append_right _ (List.mem_append_right _ (List.mem_append_right _ (List.mem_append_right _ (List.mem_append_right _ (List.mem_append_right _ (List.mem_append_right _ (List.mem_append_right _ (List.mem_append_right _ (List.mem_append_right _ (List.mem_append_right _ (List.mem_append_right _ (List.mem_append_right _ (List.mem_append_right _ (List.mem_append_right _ (List.mem_append_right _ (List.mem_append_right _ (List.mem_append_right _ (List.mem_append_right _ (List.mem_append_right _ (List.mem_append_right _ (List.mem_append_right _ (List.mem_append_right _ (List.mem_append_right _ (List.mem_append_left _ h)))))))))))))))))))))))))))))))))))))))))))))))))))))))))))))))))))))
theorem in_gc_60 : ∀ w ∈ gc_60, w ∈ gw_T := fun _ h => List.mem_append_right _ (List.mem_append_right _ (List.mem_append_right _ (List.mem_append_right _ (List.mem_append_right _ (List.mem_append_right _ (List.mem_append_right _ (List.mem_append_right _ (List.mem_append_right _ (List.mem_append_right _ (List.mem_append_right _ (List.mem_append_right _ (List.mem_append_right _ (List.mem_append_right _ (List.mem_append_right _ (List.mem_append_right _ (List.mem_append_right _ (List.mem_append_right _ (List.mem_append_right _ (List.mem_append_right _ (List.mem_append_right _ (List.mem_append_right _ (List.mem_append_right _ (List.mem_append_right _ (List.mem_append_right _ (List.mem_append_right _ (List.mem_append_right _ (List.mem_append_right _ (List.mem_append_right _ (List.mem_append_right _ (List.mem_append_right _ (List.mem_append_right _ (List.mem_append_right _ (List.mem_append_right _ (List.mem_append_right _ (List.mem_append_right _ (List.mem_append_right _ (List.mem_append_right _ (List.mem_append_right _ (List.mem_append_right _ (List.mem_append_right _ (List.mem_append_right _ (List.mem_append_right _ (List.mem_append_right _ (List.mem_append_right _ (List.mem_append_right _ (List.mem_append_right _ (List.mem_append_right _ (List.mem_append_right _ (List.mem_append_right _ (List.mem_append_right _ (List.mem_append_right _ (List.mem_append_right _ (List.mem_append_right _ (List.mem_append_right _ (List.mem_append_right _ (List.mem_append_right _ (List.mem_append_right _ (List.mem_append_right _ (List.mem_append_right _ (List.mem_append_right _ (List.mem_append_right _ (List.mem_append_right _ (List.mem_append_right _ (List.mem_append_right _ (List.mem_append_right _ (List.mem_append_right _ (List.mem_append_right _ (List.mem_append_right _ (List.mem_append_right _ (List.mem_append_left _ h))))))))))))))))))))))))))))))))))))))))))))))))))))))))))))))))))))))
theorem in_gc_61 : ∀ w ∈ gc_61, w ∈ gw_T := fun _ h => List.mem_append_right _ (List.mem_append_right _ (List.mem_append_right _ (List.mem_append_right _ (List.mem_append_right _ (List.mem_append_right _ (List.mem_append_right _ (List.mem_append_right _ (List.mem_append_right _ (List.mem_append_right _ (List.mem_append_right _ (List.mem_append_right _ (List.mem_append_right _ (List.mem_append_right _ (List.mem_append_right _ (List.mem_append_right _ (List.mem_append_right _ (List.mem_append_right _ (List.mem_append_right _ (List.mem_append_right _ (List.mem_append_right _ (List.mem_append_right _ (List.mem_append_right _ (List.mem_append_right _ (List.mem_append_right _ (List.mem_append_right _ (List.mem_append_right _ (List.mem_append_right _ (List.mem_append_right _ (List.mem_append_right _ (List.mem_append_right _ (List.mem_append_right _ (List.mem_append_right _ (List.mem_append_right _ (List.mem_append_right _ (List.mem_append_right _ (List.mem_append_right _ (List.mem_append_right _ (List.mem_append_right _ (List.mem_append_right _ (List.mem_append_right _ (List.mem_append_right _ (List.mem_append_right _ (List.mem_append_right _ (List.mem_append_right _ (List.mem_append_right _ (List.mem_append_right _ (List.mem_append_right _ (List.mem_append_right _ (List.mem_append_right _ (List.mem_append_right _ (List.mem_append_right _ (List.mem_append_right _ (List.mem_append_right _ (List.mem_append_right _ (List.mem_append_right _ (List.mem_append_right _ (List.mem_append_right _ (List.mem_append_right _ (List.mem_append_right _ (List.mem_append_right _ (List.mem_append_right _ (List.mem_append_right _ (List.mem_append_right _ (List.mem_append_right _ (List.mem_append_right _ (List.mem_append_right _ (List.mem_append_right _ (List.mem_append_right _ (List.mem_append_right _ (List.mem_append_right _ (List.mem_append_left _ h)))))))))))))))))))))))))))))))))))))))))))))))))))))))))))))))))))))))
theorem in_gc_62 : ∀ w ∈ gc_62, w ∈ gw_T := fun _ h => List.mem_append_right _ (List.mem_append_right _ (List.mem_append_right _ (List.mem_append_right _ (List.mem_append_right _ (List.mem_append_right _ (List.mem_append_right _ (List.mem_append_right _ (List.mem_append_right _ (List.mem_append_right _ (List.mem_append_right _ (List.mem_append_right _ (List.mem_append_right _ (List.mem_append_right _ (List.mem_append_right _ (List.mem_append_right _ (List.mem_append_right _ (List.mem_append_right _ (List.mem_append_right _ (List.mem_append_right _ (List.mem_append_right _ (List.mem_append_right _ (List.mem_append_right _ (List.mem_append_right _ (List.mem_append_right _ (List.mem_append_right _ (List.mem_append_right _ (List.mem_append_right _ (List.mem_append_right _ (List.mem_append_right _ (List.mem_append_right _ (List.mem_append_right _ (List.mem_append_right _ (List.mem_append_right _ (List.mem_append_right _ (List.mem_append_right _ (List.mem_append_right _ (List.mem_append_right _ (List.mem_append_right _ (List.mem_append_right _ (List.mem_append_right _ (List.mem_append_right _ (List.mem_append_right _ (List.mem_append_right _ (List.mem_append_right _ (List.mem_append_right _ (List.mem_append_right _ (List.mem_append_right _ (List.mem_append_right _ (List.mem_append_right _ (List.mem_append_right _ (List.mem_append_right _ (List.mem_append_right _ (List.mem_append_right _ (List.mem_append_right _ (List.mem_append_right _ (List.mem_append_right _ (List.mem_append_right _ (List.mem_append_right _ (List.mem_append_right _ (List.mem_append_right _ (List.mem_append_right _ (List.mem_append_right _ (List.mem_append_right _ (List.mem_append_right _ (List.mem_append_right _ (List.mem_append_right _ (List.mem_append_right _ (List.mem_append_right _ (List.mem_append_right _ (List.mem_append_right _ (List.mem_append_right _ (List.mem_append_left _ h))))))))))))))))))))))))))))))))))))))))))))))))))))))))))))))))))))))))
theorem in_gc_63 : ∀ w ∈ gc_63, w ∈ gw_T := fun _ h => List.mem_append_right _ (List.mem_append_right _ (List.mem_append_right _ (List.mem_append_right _ (List.mem_append_right _ (List.mem_append_right _ (List.mem_append_right _ (List.mem_append_right _ (List.mem_append_right _ (List.mem_append_right _ (List.mem_append_right _ (List.mem_append_right _ (List.mem_append_right _ (List.mem_append_right _ (List.mem_append_right _ (List.mem_append_right _ (List.mem_append_right _ (List.mem_append_right _ (List.mem_append_right _ (List.mem_append_right _ (List.mem_append_right _ (List.mem_append_right _ (List.mem_append_right _ (List.mem_append_right _ (List.mem_append_right _ (List.mem_append_right _ (List.mem_append_right _ (List.mem_append_right _ (List.mem_append_right _ (List.mem_append_right _ (List.mem_append_right _ (List.mem_append_right _ (List.mem_append_right _ (List.mem_append_right _ (List.mem_append_right _ (List.mem_append_right _ (List.mem_append_right _ (List.mem_append_right _ (List.mem_append_right _ (List.mem_append_right _ (List.mem_append_right _ (List.mem_append_right _ (List.mem_append_right _ (List.mem_append_right _ (List.mem_append_right _ (List.mem_append_right _ (List.mem_append_right _ (List.mem_append_right _ (List.mem_append_right _ (List.mem_append_right _ (List.mem_append_right _ (List.mem_append_right _ (List.mem_append_right _ (List.mem_append_right _ (List.mem_append_right _ (List.mem_append_right _ (List.mem_append_right _ (List.mem_append_right _ (List.mem_append_right _ (List.mem_append_right _ (List.mem_append_right _ (List.mem_append_right _ (List.mem_append_right _ (List.mem_append_right _ (List.mem_append_right _ (List.mem_append_right _ (List.mem_append_right _ (List.mem_append_right _ (List.mem_append_right _ (List.mem_append_right _ (List.mem_append_right _ (List.mem_append_right _ (List.mem_append_right _ (List.mem_append_left _ h)))))))))))))))))))))))))))))))))))))))))))))))))))))))))))))))))))))))))
theorem in_gc_64 : ∀ w ∈ gc_64, w ∈ gw_T := fun _ h => List.mem_append_right _ (List.mem_append_right _ (List.mem_append_right _ (List.mem_append_right _ (List.mem_append_right _ (List.mem_append_right _ (List.mem_append_right _ (List.mem_append_right _ (List.mem_append_right _ (List.mem_append_right _ (List.mem_append_right _ (List.mem_append_right _ (List.mem_append_right _ (List.mem_append_right _ (List.mem_append_right _ (List.mem_append_right _ (List.mem_append_right _ (List.mem_append_right _ (List.mem_append_right _ (List.mem_append_right _ (List.mem_append_right _ (List.mem_append_right _ (List.mem_append_right _ (List.mem_append_right _ (List.mem_append_right _ (List.mem_append_right _ (List.mem_append_right _ (List.mem_append_right _ (List.mem_append_right _ (List.mem_append_right _ (List.mem_append_right _ (List.mem_append_right _ (List.mem_append_right _ (List.mem_append_right _ (List.mem_append_right _ (List.mem_append_right _ (List.mem_append_right _ (List.mem_append_right _ (List.mem_append_right _ (List.mem_append_right _ (List.mem_append_right _ (List.mem_append_right _ (List.mem_append_right _ (List.mem_append_right _ (List.mem_append_right _ (List.mem_append_right _ (List.mem_append_right _ (List.mem_append_right _ (List.mem_append_right _ (List.mem_append_right _ (List.mem_append_right _ (List.mem_append_right _ (List.mem_append_right _ (List.mem_append_right _ (List.mem_append_right _ (List.mem_append_right _ (List.mem_append_right _ (List.mem_append_right _ (List.mem_append_right _ (List.mem_append_right _ (List.mem_append_right _ (List.mem_append_right _ (List.mem_append_right _ (List.mem_append_right _ (List.mem_append_right _ (List.mem_append_right _ (List.mem_append_right _ (List.mem_append_right _ (List.mem_append_right _ (List.mem_append_right _ (List.mem_append_right _ (List.mem_append_right _ (List.mem_append_right _ (List.mem_append_right _ (List.mem_append_left _ h))))))))))))))))))))))))))))))))))))))))))))))))))))))))))))))))))))))))))
theorem in_gc_65 : ∀ w ∈ gc_65, w ∈ gw_T := fun _ h => List.mem_append_right _ (List.mem_append_right _ (List.mem_append_right _ (List.mem_append_right _ (List.mem_append_right _ (List.mem_append_right _ (List.mem_append_right _ (List.mem_append_right _ (List.mem_append_right _ (List.mem_append_right _ (List.mem_append_right _ (List.mem_append_right _ (List.mem_append_right _ (List.mem_append_right _ (List.mem_append_right _ (List.mem_append_right _ (List.mem_append_right _ (List.mem_append_right _ (List.mem_append_right _ (List.mem_append_right _ (List.mem_append_right _ (List.mem_append_right _ (List.mem_append_right _ (List.mem_append_right _ (List.mem_append_right _ (List.mem_append_right _ (List.mem_append_right _ (List.mem_append_right _ (List.mem_append_right _ (List.mem_append_right _ (List.mem_append_right _ (List.mem_append_right _ (List.mem_append_right _ (List.mem_append_right _ (List.mem_append_right _ (List.mem_append_right _ (List.mem_append_right _ (List.mem_append_right _ (List.mem_append_right _ (List.mem_append_right _ (List.mem_append_right _ (List.mem_append_right _ (List.mem_append_right _ (List.mem_append_right _ (List.mem_append_right _ (List.mem_append_right _ (List.mem_append_right _ (List.mem_append_right _ (List.mem_append_right _ (List.mem_append_right _ (List.mem_append_right _ (List.mem_append_right _ (List.mem_append_right _ (List.mem_append_right _ (List.mem_append_right _ (List.mem_append_right _ (List.mem_append_right _ (List.mem_append_right _ (List.mem_append_right _ (List.mem_append_right _ (List.mem_append_right _ (List.mem_append_right _ (List.mem_append_right _ (List.mem_append_right _ (List.mem_append_right _ (List.mem_append_right _ (List.mem_append_right _ (List.mem_append_right _ (List.mem_append_right _ (List.mem_append_right _ (List.mem_append_right _ (List.mem_append_right _ (List.mem_append_right _ (List.mem_append_right _ (List.mem_append_right _ (h)))))))))))))))))))))))))))))))))))))))))))))))))))))))))))))))))))))))))))
theorem gRX0 : ∀ w ∈ u_ws RX0 TX0 2, w ∈ gw_T := in_gl_0
theorem gRX1 : ∀ w ∈ u_ws RX1 TX1 5, w ∈ gw_T := in_gl_1
theorem gRX2 : ∀ w ∈ u_ws RX2 TX2 11, w ∈ gw_T := in_gl_2
theorem gRX3 : ∀ w ∈ u_ws RX3 TX3 16, w ∈ gw_T := in_gl_3
theorem gRX4 : ∀ w ∈ u_ws RX4 TX4 4, w ∈ gw_T := in_gl_4
theorem gRX5 : ∀ w ∈ u_ws RX5 TX5 5, w ∈ gw_T := in_gl_5
theorem gRX6 : ∀ w ∈ u_ws RX6 TX6 9, w ∈ gw_T := in_gl_6
theorem gRX7 : ∀ w ∈ u_ws RX7 TX7 11, w ∈ gw_T := in_gl_7
theorem gRX8 : ∀ w ∈ u_ws RX8 TX8 13, w ∈ gw_T := in_gl_8
theorem gRX9 : ∀ w ∈ u_ws RX9 TX9 37, w ∈ gw_T := in_gl_9
theorem wi_0 : Cond.selects RX3 yX3_empty yX3_empty ∈ gw_T := in_gc_0 _ (List.mem_of_getElem? (i := 0) rfl)
theorem wi_1 : Cond.selects RX8 yX8_tapeInt yX8_tapeInt ∈ gw_T := in_gc_0 _ (List.mem_of_getElem? (i := 1) rfl)
theorem wi_2 : Cond.selects RX6 yX6_readText yX6_readText ∈ gw_T := in_gc_0 _ (List.mem_of_getElem? (i := 2) rfl)
theorem wi_3 : Cond.selects RX6 yX6_advance yX6_advance ∈ gw_T := in_gc_0 _ (List.mem_of_getElem? (i := 3) rfl)
theorem wi_4 : Cond.selects RX6 yX6_endOf yX6_endOf ∈ gw_T := in_gc_0 _ (List.mem_of_getElem? (i := 4) rfl)
theorem wi_5 : Cond.selects RX6 yX6_kindAt yX6_kindAt ∈ gw_T := in_gc_0 _ (List.mem_of_getElem? (i := 5) rfl)
theorem wi_6 : Cond.selects RX6 yX6_readValue yX6_readValue ∈ gw_T := in_gc_0 _ (List.mem_of_getElem? (i := 6) rfl)
theorem wi_7 : Cond.selects RX6 yX6_readLine yX6_readLine ∈ gw_T := in_gc_0 _ (List.mem_of_getElem? (i := 7) rfl)
theorem wi_8 : Cond.selects RX6 yX6_isWord yX6_isWord ∈ gw_T := in_gc_0 _ (List.mem_of_getElem? (i := 8) rfl)
theorem wi_9 : Cond.selects RX6 yX6_readStrip yX6_readStrip ∈ gw_T := in_gc_0 _ (List.mem_of_getElem? (i := 9) rfl)
theorem wi_10 : Cond.selects RX6 yX6_refuse yX6_refuse ∈ gw_T := in_gc_0 _ (List.mem_of_getElem? (i := 10) rfl)
theorem wi_11 : Cond.selects RX6 yX6_takeNumber yX6_takeNumber ∈ gw_T := in_gc_0 _ (List.mem_of_getElem? (i := 11) rfl)
theorem wi_12 : Cond.selects RX6 yX6_takeWord yX6_takeWord ∈ gw_T := in_gc_0 _ (List.mem_of_getElem? (i := 12) rfl)
theorem wi_13 : Cond.selects RX3 yX3_addStrip yX3_addStrip ∈ gw_T := in_gc_0 _ (List.mem_of_getElem? (i := 13) rfl)
theorem wi_14 : Cond.selects RX6 yX6_readLamp yX6_readLamp ∈ gw_T := in_gc_0 _ (List.mem_of_getElem? (i := 14) rfl)
theorem wi_15 : Cond.selects RX6 yX6_readBid yX6_readBid ∈ gw_T := in_gc_0 _ (List.mem_of_getElem? (i := 15) rfl)
theorem wi_16 : Cond.selects RX6 yX6_endLine yX6_endLine ∈ gw_T := in_gc_0 _ (List.mem_of_getElem? (i := 16) rfl)
theorem wi_17 : Cond.selects RX3 yX3_become yX3_become ∈ gw_T := in_gc_0 _ (List.mem_of_getElem? (i := 17) rfl)
theorem wi_18 : Cond.selects RX3 yX3_hasStrip yX3_hasStrip ∈ gw_T := in_gc_0 _ (List.mem_of_getElem? (i := 18) rfl)
theorem wi_19 : Cond.selects RX3 yX3_lightOf yX3_lightOf ∈ gw_T := in_gc_0 _ (List.mem_of_getElem? (i := 19) rfl)
theorem wi_20 : Cond.selects RX3 yX3_unshadedLight yX3_unshadedLight ∈ gw_T := in_gc_1 _ (List.mem_of_getElem? (i := 0) rfl)
theorem wi_21 : Cond.selects RX3 yX3_isShaded yX3_isShaded ∈ gw_T := in_gc_1 _ (List.mem_of_getElem? (i := 1) rfl)
theorem wi_22 : Cond.selects RX3 yX3_sumOfFarm yX3_sumOfFarm ∈ gw_T := in_gc_1 _ (List.mem_of_getElem? (i := 2) rfl)
theorem wi_23 : Cond.selects RX3 yX3_stripsOfFarm yX3_stripsOfFarm ∈ gw_T := in_gc_1 _ (List.mem_of_getElem? (i := 3) rfl)
theorem wi_24 : Cond.selects RX3 yX3_litFrom yX3_litFrom ∈ gw_T := in_gc_1 _ (List.mem_of_getElem? (i := 4) rfl)
theorem wi_25 : Cond.selects RX3 yX3_shadedFrom yX3_shadedFrom ∈ gw_T := in_gc_1 _ (List.mem_of_getElem? (i := 5) rfl)
theorem wi_26 : Cond.selects RX3 yX3_leastHeight yX3_leastHeight ∈ gw_T := in_gc_1 _ (List.mem_of_getElem? (i := 6) rfl)
theorem wi_27 : Cond.selects RX3 yX3_areStrips yX3_areStrips ∈ gw_T := in_gc_1 _ (List.mem_of_getElem? (i := 7) rfl)
theorem wi_28 : Cond.selects RX3 yX3_allStrips yX3_allStrips ∈ gw_T := in_gc_1 _ (List.mem_of_getElem? (i := 8) rfl)
theorem wi_29 : Cond.selects RX3 yX3_leastHeightForAll yX3_leastHeightForAll ∈ gw_T := in_gc_1 _ (List.mem_of_getElem? (i := 9) rfl)
theorem wi_30 : Cond.selects RX3 yX3_whyNot yX3_whyNot ∈ gw_T := in_gc_1 _ (List.mem_of_getElem? (i := 10) rfl)
theorem wi_31 : Cond.selects RX3 yX3_target yX3_target ∈ gw_T := in_gc_1 _ (List.mem_of_getElem? (i := 11) rfl)
theorem wi_32 : Cond.selects RX3 yX3_pass yX3_pass ∈ gw_T := in_gc_1 _ (List.mem_of_getElem? (i := 12) rfl)
theorem wi_33 : Cond.selects RX3 yX3_passAll yX3_passAll ∈ gw_T := in_gc_1 _ (List.mem_of_getElem? (i := 13) rfl)
theorem wi_34 : Cond.selects RX4 yX4_valueAt yX4_valueAt ∈ gw_T := in_gc_1 _ (List.mem_of_getElem? (i := 14) rfl)
theorem wi_35 : Cond.selects RX3 yX3_sum yX3_sum ∈ gw_T := in_gc_1 _ (List.mem_of_getElem? (i := 15) rfl)
theorem wi_36 : Cond.selects RX3 yX3_hangsOver yX3_hangsOver ∈ gw_T := in_gc_1 _ (List.mem_of_getElem? (i := 16) rfl)
theorem wi_37 : Cond.selects RX8 yX8_refusedSearch yX8_refusedSearch ∈ gw_T := in_gc_1 _ (List.mem_of_getElem? (i := 17) rfl)
theorem wi_38 : Cond.selects RX8 yX8_possibleMinutes yX8_possibleMinutes ∈ gw_T := in_gc_1 _ (List.mem_of_getElem? (i := 18) rfl)
theorem wi_39 : Cond.selects RX8 yX8_seek yX8_seek ∈ gw_T := in_gc_1 _ (List.mem_of_getElem? (i := 19) rfl)
theorem wi_40 : Cond.selects RX7 yX7_lay yX7_lay ∈ gw_T := in_gc_2 _ (List.mem_of_getElem? (i := 0) rfl)
theorem wi_41 : Cond.selects RX7 yX7_begin yX7_begin ∈ gw_T := in_gc_2 _ (List.mem_of_getElem? (i := 1) rfl)
theorem wi_42 : Cond.selects RX7 yX7_layMinute yX7_layMinute ∈ gw_T := in_gc_2 _ (List.mem_of_getElem? (i := 2) rfl)
theorem wi_43 : Cond.selects RX7 yX7_end yX7_end ∈ gw_T := in_gc_2 _ (List.mem_of_getElem? (i := 3) rfl)
theorem wi_44 : Cond.selects RX7 yX7_first yX7_first ∈ gw_T := in_gc_2 _ (List.mem_of_getElem? (i := 4) rfl)
theorem wi_45 : Cond.selects RX7 yX7_arrive yX7_arrive ∈ gw_T := in_gc_2 _ (List.mem_of_getElem? (i := 5) rfl)
theorem wi_46 : Cond.selects RX7 yX7_append yX7_append ∈ gw_T := in_gc_2 _ (List.mem_of_getElem? (i := 6) rfl)
theorem wi_47 : Cond.selects RX2 yX2_prepare yX2_prepare ∈ gw_T := in_gc_2 _ (List.mem_of_getElem? (i := 7) rfl)
theorem wi_48 : Cond.selects RX2 yX2_weightOf yX2_weightOf ∈ gw_T := in_gc_2 _ (List.mem_of_getElem? (i := 8) rfl)
theorem wi_49 : Cond.selects RX2 yX2_fillCaps yX2_fillCaps ∈ gw_T := in_gc_2 _ (List.mem_of_getElem? (i := 9) rfl)
theorem wi_50 : Cond.selects RX2 yX2_firstWorth yX2_firstWorth ∈ gw_T := in_gc_2 _ (List.mem_of_getElem? (i := 10) rfl)
theorem wi_51 : Cond.selects RX2 yX2_seekBest yX2_seekBest ∈ gw_T := in_gc_2 _ (List.mem_of_getElem? (i := 11) rfl)
theorem wi_52 : Cond.selects RX2 yX2_open yX2_open ∈ gw_T := in_gc_2 _ (List.mem_of_getElem? (i := 12) rfl)
theorem wi_53 : Cond.selects RX2 yX2_couldBeWorth yX2_couldBeWorth ∈ gw_T := in_gc_2 _ (List.mem_of_getElem? (i := 13) rfl)
theorem wi_54 : Cond.selects RX2 yX2_fairScore yX2_fairScore ∈ gw_T := in_gc_2 _ (List.mem_of_getElem? (i := 14) rfl)
theorem wi_55 : Cond.selects RX2 yX2_cutOf yX2_cutOf ∈ gw_T := in_gc_2 _ (List.mem_of_getElem? (i := 15) rfl)
theorem wi_56 : Cond.selects RX2 yX2_weighedScore yX2_weighedScore ∈ gw_T := in_gc_2 _ (List.mem_of_getElem? (i := 16) rfl)
theorem wi_57 : Cond.selects RX8 yX8_foundAnswer yX8_foundAnswer ∈ gw_T := in_gc_2 _ (List.mem_of_getElem? (i := 17) rfl)
theorem wi_58 : Cond.selects RX7 yX7_moveOf yX7_moveOf ∈ gw_T := in_gc_2 _ (List.mem_of_getElem? (i := 18) rfl)
theorem wi_59 : Cond.selects RX2 yX2_bidsOf yX2_bidsOf ∈ gw_T := in_gc_2 _ (List.mem_of_getElem? (i := 19) rfl)
theorem wi_60 : Cond.selects RX5 yX5_seekAll yX5_seekAll ∈ gw_T := in_gc_3 _ (List.mem_of_getElem? (i := 0) rfl)
theorem wi_61 : Cond.selects RX5 yX5_weigh yX5_weigh ∈ gw_T := in_gc_3 _ (List.mem_of_getElem? (i := 1) rfl)
theorem wi_62 : Cond.selects RX8 yX8_canShift yX8_canShift ∈ gw_T := in_gc_3 _ (List.mem_of_getElem? (i := 2) rfl)
theorem wi_63 : Cond.selects RX1 yX1_countUnlike yX1_countUnlike ∈ gw_T := in_gc_3 _ (List.mem_of_getElem? (i := 3) rfl)
theorem wi_64 : Cond.selects RX1 yX1_keep yX1_keep ∈ gw_T := in_gc_3 _ (List.mem_of_getElem? (i := 4) rfl)
theorem wi_65 : Cond.selects RX0 yX0_fewest yX0_fewest ∈ gw_T := in_gc_3 _ (List.mem_of_getElem? (i := 5) rfl)
theorem wi_66 : Cond.selects RX0 yX0_look yX0_look ∈ gw_T := in_gc_3 _ (List.mem_of_getElem? (i := 6) rfl)
theorem wi_67 : Cond.selects RX0 yX0_leastBits yX0_leastBits ∈ gw_T := in_gc_3 _ (List.mem_of_getElem? (i := 7) rfl)
theorem wi_68 : Cond.selects RX8 yX8_refusedStubble yX8_refusedStubble ∈ gw_T := in_gc_3 _ (List.mem_of_getElem? (i := 8) rfl)
theorem wi_69 : Cond.selects RX8 yX8_explain yX8_explain ∈ gw_T := in_gc_3 _ (List.mem_of_getElem? (i := 9) rfl)
theorem wi_70 : Cond.selects RX1 yX1_explainNothing yX1_explainNothing ∈ gw_T := in_gc_3 _ (List.mem_of_getElem? (i := 10) rfl)
theorem wi_71 : Cond.selects RX1 yX1_explain yX1_explain ∈ gw_T := in_gc_3 _ (List.mem_of_getElem? (i := 11) rfl)
theorem wi_72 : Cond.selects RX2 yX2_stripsHungOver yX2_stripsHungOver ∈ gw_T := in_gc_3 _ (List.mem_of_getElem? (i := 12) rfl)
theorem wi_73 : Cond.selects RX8 yX8_refusedMeeting yX8_refusedMeeting ∈ gw_T := in_gc_3 _ (List.mem_of_getElem? (i := 13) rfl)
theorem wi_74 : Cond.selects RX8 yX8_firstMeeting yX8_firstMeeting ∈ gw_T := in_gc_3 _ (List.mem_of_getElem? (i := 14) rfl)
theorem wi_75 : Cond.selects RX4 yX4_renew yX4_renew ∈ gw_T := in_gc_3 _ (List.mem_of_getElem? (i := 15) rfl)
theorem wi_76 : Cond.selects RX4 yX4_put yX4_put ∈ gw_T := in_gc_3 _ (List.mem_of_getElem? (i := 16) rfl)
theorem wi_77 : Cond.selects RX4 yX4_cut yX4_cut ∈ gw_T := in_gc_3 _ (List.mem_of_getElem? (i := 17) rfl)
theorem wi_78 : Cond.selects RX9 yX9_next yX9_next ∈ gw_T := in_gc_3 _ (List.mem_of_getElem? (i := 18) rfl)
theorem wi_79 : Cond.selects RX9 yX9_see yX9_see ∈ gw_T := in_gc_3 _ (List.mem_of_getElem? (i := 19) rfl)
theorem wi_80 : Cond.selects RX9 yX9_keyAt yX9_keyAt ∈ gw_T := in_gc_4 _ (List.mem_of_getElem? (i := 0) rfl)
theorem wi_81 : Cond.selects RX9 yX9_readLine yX9_readLine ∈ gw_T := in_gc_4 _ (List.mem_of_getElem? (i := 1) rfl)
theorem wi_82 : Cond.selects RX9 yX9_is yX9_is ∈ gw_T := in_gc_4 _ (List.mem_of_getElem? (i := 2) rfl)
theorem wi_83 : Cond.selects RX9 yX9_readStrip yX9_readStrip ∈ gw_T := in_gc_4 _ (List.mem_of_getElem? (i := 3) rfl)
theorem wi_84 : Cond.selects RX9 yX9_fails yX9_fails ∈ gw_T := in_gc_4 _ (List.mem_of_getElem? (i := 4) rfl)
theorem wi_85 : Cond.selects RX9 yX9_takes yX9_takes ∈ gw_T := in_gc_4 _ (List.mem_of_getElem? (i := 5) rfl)
theorem wi_86 : Cond.selects RX9 yX9_takesIf yX9_takesIf ∈ gw_T := in_gc_4 _ (List.mem_of_getElem? (i := 6) rfl)
theorem wi_87 : Cond.selects RX9 yX9_eats yX9_eats ∈ gw_T := in_gc_4 _ (List.mem_of_getElem? (i := 7) rfl)
theorem wi_88 : Cond.selects RX9 yX9_readLamp yX9_readLamp ∈ gw_T := in_gc_4 _ (List.mem_of_getElem? (i := 8) rfl)
theorem wi_89 : Cond.selects RX9 yX9_readBid yX9_readBid ∈ gw_T := in_gc_4 _ (List.mem_of_getElem? (i := 9) rfl)
theorem wi_90 : Cond.selects RX9 yX9_isStrip yX9_isStrip ∈ gw_T := in_gc_4 _ (List.mem_of_getElem? (i := 10) rfl)
theorem wi_91 : Cond.selects RX9 yX9_lightOf yX9_lightOf ∈ gw_T := in_gc_4 _ (List.mem_of_getElem? (i := 11) rfl)
theorem wi_92 : Cond.selects RX9 yX9_lightBy yX9_lightBy ∈ gw_T := in_gc_4 _ (List.mem_of_getElem? (i := 12) rfl)
theorem wi_93 : Cond.selects RX9 yX9_isShaded yX9_isShaded ∈ gw_T := in_gc_4 _ (List.mem_of_getElem? (i := 13) rfl)
theorem wi_94 : Cond.selects RX9 yX9_nearness yX9_nearness ∈ gw_T := in_gc_4 _ (List.mem_of_getElem? (i := 14) rfl)
theorem wi_95 : Cond.selects RX9 yX9_ofFarm yX9_ofFarm ∈ gw_T := in_gc_4 _ (List.mem_of_getElem? (i := 15) rfl)
theorem wi_96 : Cond.selects RX9 yX9_stripsOf yX9_stripsOf ∈ gw_T := in_gc_4 _ (List.mem_of_getElem? (i := 16) rfl)
theorem wi_97 : Cond.selects RX9 yX9_litBy yX9_litBy ∈ gw_T := in_gc_4 _ (List.mem_of_getElem? (i := 17) rfl)
theorem wi_98 : Cond.selects RX9 yX9_isSet yX9_isSet ∈ gw_T := in_gc_4 _ (List.mem_of_getElem? (i := 18) rfl)
theorem wi_99 : Cond.selects RX9 yX9_refuses yX9_refuses ∈ gw_T := in_gc_4 _ (List.mem_of_getElem? (i := 19) rfl)
theorem wi_100 : Cond.selects RX9 yX9_goes yX9_goes ∈ gw_T := in_gc_5 _ (List.mem_of_getElem? (i := 0) rfl)
theorem wi_101 : Cond.selects RX9 yX9_keeps yX9_keeps ∈ gw_T := in_gc_5 _ (List.mem_of_getElem? (i := 1) rfl)
theorem wi_102 : Cond.selects RX9 yX9_movesOf yX9_movesOf ∈ gw_T := in_gc_5 _ (List.mem_of_getElem? (i := 2) rfl)
theorem wi_103 : Cond.selects RX9 yX9_isAgain yX9_isAgain ∈ gw_T := in_gc_5 _ (List.mem_of_getElem? (i := 3) rfl)
theorem wi_104 : Cond.selects RX9 yX9_draw yX9_draw ∈ gw_T := in_gc_5 _ (List.mem_of_getElem? (i := 4) rfl)
theorem wi_105 : Cond.selects RX9 yX9_told yX9_told ∈ gw_T := in_gc_5 _ (List.mem_of_getElem? (i := 5) rfl)
theorem wi_106 : Cond.selects RX9 yX9_laysBest yX9_laysBest ∈ gw_T := in_gc_5 _ (List.mem_of_getElem? (i := 6) rfl)
theorem wi_107 : Cond.selects RX9 yX9_minutesOf yX9_minutesOf ∈ gw_T := in_gc_5 _ (List.mem_of_getElem? (i := 7) rfl)
theorem wi_108 : Cond.selects RX9 yX9_seeks yX9_seeks ∈ gw_T := in_gc_5 _ (List.mem_of_getElem? (i := 8) rfl)
theorem wi_109 : Cond.selects RX9 yX9_firstWorth yX9_firstWorth ∈ gw_T := in_gc_5 _ (List.mem_of_getElem? (i := 9) rfl)
theorem wi_110 : Cond.selects RX9 yX9_total yX9_total ∈ gw_T := in_gc_5 _ (List.mem_of_getElem? (i := 10) rfl)
theorem wi_111 : Cond.selects RX9 yX9_gathers yX9_gathers ∈ gw_T := in_gc_5 _ (List.mem_of_getElem? (i := 11) rfl)
theorem wi_112 : Cond.selects RX9 yX9_isMet yX9_isMet ∈ gw_T := in_gc_5 _ (List.mem_of_getElem? (i := 12) rfl)
theorem wi_113 : Cond.selects RX9 yX9_haltsFor yX9_haltsFor ∈ gw_T := in_gc_5 _ (List.mem_of_getElem? (i := 13) rfl)
theorem wi_114 : Cond.selects RX9 yX9_laysStubble yX9_laysStubble ∈ gw_T := in_gc_5 _ (List.mem_of_getElem? (i := 14) rfl)
theorem wi_115 : Cond.selects RX9 yX9_explains yX9_explains ∈ gw_T := in_gc_5 _ (List.mem_of_getElem? (i := 15) rfl)
theorem wi_116 : Cond.selects RX9 yX9_canWalk yX9_canWalk ∈ gw_T := in_gc_5 _ (List.mem_of_getElem? (i := 16) rfl)
theorem wi_117 : Cond.selects RX9 yX9_isOther yX9_isOther ∈ gw_T := in_gc_5 _ (List.mem_of_getElem? (i := 17) rfl)
theorem wi_118 : Cond.selects RX9 yX9_meetBy yX9_meetBy ∈ gw_T := in_gc_5 _ (List.mem_of_getElem? (i := 18) rfl)
theorem wi_119 : Cond.selects RX9 yX9_sumOf yX9_sumOf ∈ gw_T := in_gc_5 _ (List.mem_of_getElem? (i := 19) rfl)
theorem wi_120 : Cond.initialized RL ∈ gw_T := in_gc_6 _ (List.mem_of_getElem? (i := 0) rfl)
theorem wi_121 : Cond.initialized RX8 ∈ gw_T := in_gc_6 _ (List.mem_of_getElem? (i := 1) rfl)
theorem wi_122 : Cond.initialized RX6 ∈ gw_T := in_gc_6 _ (List.mem_of_getElem? (i := 2) rfl)
theorem wi_123 : Cond.initialized RX3 ∈ gw_T := in_gc_6 _ (List.mem_of_getElem? (i := 3) rfl)
theorem wi_124 : Cond.initialized RJ7 ∈ gw_T := in_gc_6 _ (List.mem_of_getElem? (i := 4) rfl)
theorem wi_125 : Cond.initialized RX7 ∈ gw_T := in_gc_6 _ (List.mem_of_getElem? (i := 5) rfl)
theorem wi_126 : Cond.initialized RX2 ∈ gw_T := in_gc_6 _ (List.mem_of_getElem? (i := 6) rfl)
theorem wi_127 : Cond.initialized RX5 ∈ gw_T := in_gc_6 _ (List.mem_of_getElem? (i := 7) rfl)
theorem wi_128 : Cond.initialized RX1 ∈ gw_T := in_gc_6 _ (List.mem_of_getElem? (i := 8) rfl)
theorem wi_129 : Cond.initialized RX0 ∈ gw_T := in_gc_6 _ (List.mem_of_getElem? (i := 9) rfl)
theorem wi_130 : Cond.initialized RX4 ∈ gw_T := in_gc_6 _ (List.mem_of_getElem? (i := 10) rfl)
theorem wi_131 : Cond.initialized RX9 ∈ gw_T := in_gc_6 _ (List.mem_of_getElem? (i := 11) rfl)
theorem wi_132 : Cond.initialized "java/lang/Math" ∈ gw_T := in_gc_6 _ (List.mem_of_getElem? (i := 12) rfl)
theorem wi_133 : Cond.initialized "java/lang/System" ∈ gw_T := in_gc_6 _ (List.mem_of_getElem? (i := 13) rfl)
theorem wi_134 : Cond.initialized "java/lang/String" ∈ gw_T := in_gc_6 _ (List.mem_of_getElem? (i := 14) rfl)
theorem wi_135 : Cond.initialized "java/lang/StringLatin1" ∈ gw_T := in_gc_6 _ (List.mem_of_getElem? (i := 15) rfl)
theorem wi_136 : Cond.initialized "jdk/internal/util/Preconditions" ∈ gw_T := in_gc_6 _ (List.mem_of_getElem? (i := 16) rfl)
theorem wi_137 : Cond.initialized "java/lang/StringUTF16" ∈ gw_T := in_gc_6 _ (List.mem_of_getElem? (i := 17) rfl)
theorem wi_138 : Cond.initialized "java/lang/Integer" ∈ gw_T := in_gc_6 _ (List.mem_of_getElem? (i := 18) rfl)
theorem wi_139 : Cond.classLink RL 7 RX8 ∈ gw_T := in_gc_6 _ (List.mem_of_getElem? (i := 19) rfl)
theorem wi_140 : Cond.instantiable RX8 13 ∈ gw_T := in_gc_7 _ (List.mem_of_getElem? (i := 0) rfl)
theorem wi_141 : Cond.methodLink RL 9 yX8_init ∈ gw_T := in_gc_7 _ (List.mem_of_getElem? (i := 1) rfl)
theorem wi_142 : Cond.instanceMethod yX8_init ∈ gw_T := in_gc_7 _ (List.mem_of_getElem? (i := 2) rfl)
theorem wi_144 : Cond.methodLink RX8 1 objectInit ∈ gw_T := in_gc_7 _ (List.mem_of_getElem? (i := 3) rfl)
theorem wi_145 : Cond.instanceMethod objectInit ∈ gw_T := in_gc_7 _ (List.mem_of_getElem? (i := 4) rfl)
theorem wi_147 : Cond.classLink RX8 17 RX6 ∈ gw_T := in_gc_7 _ (List.mem_of_getElem? (i := 5) rfl)
theorem wi_148 : Cond.instantiable RX6 9 ∈ gw_T := in_gc_7 _ (List.mem_of_getElem? (i := 6) rfl)
theorem wi_150 : Cond.instanceMethod yX6_init ∈ gw_T := in_gc_7 _ (List.mem_of_getElem? (i := 7) rfl)
theorem wi_152 : Cond.methodLink RX6 3 objectInit ∈ gw_T := in_gc_7 _ (List.mem_of_getElem? (i := 8) rfl)
theorem wi_153 : Cond.classLink RX6 9 RX3 ∈ gw_T := in_gc_7 _ (List.mem_of_getElem? (i := 9) rfl)
theorem wi_154 : Cond.instantiable RX3 16 ∈ gw_T := in_gc_7 _ (List.mem_of_getElem? (i := 10) rfl)
theorem wi_156 : Cond.instanceMethod yX3_init ∈ gw_T := in_gc_7 _ (List.mem_of_getElem? (i := 11) rfl)
theorem wi_158 : Cond.methodLink RX3 3 objectInit ∈ gw_T := in_gc_7 _ (List.mem_of_getElem? (i := 12) rfl)
theorem wi_159 : Cond.methodLink RX3 30 yX3_empty ∈ gw_T := in_gc_7 _ (List.mem_of_getElem? (i := 13) rfl)
theorem wi_161 : Cond.instanceMethod yX3_empty ∈ gw_T := in_gc_7 _ (List.mem_of_getElem? (i := 14) rfl)
theorem wi_163 : Cond.methodLink RX3 64 yJ7_fill_53178 ∈ gw_T := in_gc_7 _ (List.mem_of_getElem? (i := 15) rfl)
theorem wi_164 : Cond.static yJ7_fill_53178 ∈ gw_T := in_gc_7 _ (List.mem_of_getElem? (i := 16) rfl)
theorem wi_166 : Cond.fieldLink RX3 33 "RopeMoon$Plain" "strips" "I" ∈ gw_T := in_gc_7 _ (List.mem_of_getElem? (i := 17) rfl)
theorem wi_173 : Cond.fieldLink RX3 37 "RopeMoon$Plain" "lines" "I" ∈ gw_T := in_gc_7 _ (List.mem_of_getElem? (i := 18) rfl)
theorem wi_176 : Cond.fieldLink RX3 40 "RopeMoon$Plain" "minute" "I" ∈ gw_T := in_gc_7 _ (List.mem_of_getElem? (i := 19) rfl)
theorem wi_178 : Cond.fieldLink RX3 43 "RopeMoon$Plain" "at" "I" ∈ gw_T := in_gc_8 _ (List.mem_of_getElem? (i := 0) rfl)
theorem wi_181 : Cond.fieldLink RX3 46 "RopeMoon$Plain" "rope" "I" ∈ gw_T := in_gc_8 _ (List.mem_of_getElem? (i := 1) rfl)
theorem wi_184 : Cond.fieldLink RX3 49 "RopeMoon$Plain" "power" "I" ∈ gw_T := in_gc_8 _ (List.mem_of_getElem? (i := 2) rfl)
theorem wi_187 : Cond.fieldLink RX3 52 "RopeMoon$Plain" "fade" "I" ∈ gw_T := in_gc_8 _ (List.mem_of_getElem? (i := 3) rfl)
theorem wi_190 : Cond.fieldLink RX3 55 "RopeMoon$Plain" "oil" "I" ∈ gw_T := in_gc_8 _ (List.mem_of_getElem? (i := 4) rfl)
theorem wi_193 : Cond.fieldLink RX3 58 "RopeMoon$Plain" "moths" "I" ∈ gw_T := in_gc_8 _ (List.mem_of_getElem? (i := 5) rfl)
theorem wi_196 : Cond.fieldLink RX3 61 "RopeMoon$Plain" "crossing" "I" ∈ gw_T := in_gc_8 _ (List.mem_of_getElem? (i := 6) rfl)
theorem wi_199 : Cond.fieldLink RX3 9 "RopeMoon$Plain" "crops" "[I" ∈ gw_T := in_gc_8 _ (List.mem_of_getElem? (i := 7) rfl)
theorem wi_203 : Cond.fieldLink RX3 15 "RopeMoon$Plain" "reapers" "[I" ∈ gw_T := in_gc_8 _ (List.mem_of_getElem? (i := 8) rfl)
theorem wi_206 : Cond.fieldLink RX3 18 "RopeMoon$Plain" "trees" "[I" ∈ gw_T := in_gc_8 _ (List.mem_of_getElem? (i := 9) rfl)
theorem wi_208 : Cond.fieldLink RX3 21 "RopeMoon$Plain" "farms" "[I" ∈ gw_T := in_gc_8 _ (List.mem_of_getElem? (i := 10) rfl)
theorem wi_211 : Cond.fieldLink RX3 24 "RopeMoon$Plain" "reaped" "[I" ∈ gw_T := in_gc_8 _ (List.mem_of_getElem? (i := 11) rfl)
theorem wi_213 : Cond.fieldLink RX3 27 "RopeMoon$Plain" "bids" "[I" ∈ gw_T := in_gc_8 _ (List.mem_of_getElem? (i := 12) rfl)
theorem wi_250 : Cond.arrayClass .byte ∈ gw_T := in_gc_8 _ (List.mem_of_getElem? (i := 13) rfl)
theorem wi_251 : Cond.arrayClass .int ∈ gw_T := in_gc_8 _ (List.mem_of_getElem? (i := 14) rfl)
theorem wi_252 : Cond.fieldLink RX6 12 "RopeMoon$TextReader" "told" "LRopeMoon$Plain;" ∈ gw_T := in_gc_8 _ (List.mem_of_getElem? (i := 15) rfl)
theorem wi_254 : Cond.fieldLink RX6 18 "RopeMoon$TextReader" "faultKind" "I" ∈ gw_T := in_gc_8 _ (List.mem_of_getElem? (i := 16) rfl)
theorem wi_256 : Cond.fieldLink RX6 22 "RopeMoon$TextReader" "faultPlace" "I" ∈ gw_T := in_gc_8 _ (List.mem_of_getElem? (i := 17) rfl)
theorem wi_258 : Cond.fieldLink RX6 25 "RopeMoon$TextReader" "text" "[B" ∈ gw_T := in_gc_8 _ (List.mem_of_getElem? (i := 18) rfl)
theorem wi_259 : Cond.fieldLink RX6 29 "RopeMoon$TextReader" "length" "I" ∈ gw_T := in_gc_8 _ (List.mem_of_getElem? (i := 19) rfl)
theorem wi_260 : Cond.fieldLink RX6 32 "RopeMoon$TextReader" "start" "I" ∈ gw_T := in_gc_9 _ (List.mem_of_getElem? (i := 0) rfl)
theorem wi_261 : Cond.fieldLink RX6 35 "RopeMoon$TextReader" "next" "I" ∈ gw_T := in_gc_9 _ (List.mem_of_getElem? (i := 1) rfl)
theorem wi_262 : Cond.fieldLink RX6 38 "RopeMoon$TextReader" "token" "I" ∈ gw_T := in_gc_9 _ (List.mem_of_getElem? (i := 2) rfl)
theorem wi_263 : Cond.fieldLink RX6 41 "RopeMoon$TextReader" "value" "I" ∈ gw_T := in_gc_9 _ (List.mem_of_getElem? (i := 3) rfl)
theorem wi_283 : Cond.classLink RX8 24 RX3 ∈ gw_T := in_gc_9 _ (List.mem_of_getElem? (i := 4) rfl)
theorem wi_286 : Cond.classLink RX8 42 RX4 ∈ gw_T := in_gc_9 _ (List.mem_of_getElem? (i := 5) rfl)
theorem wi_288 : Cond.classLink RX8 48 RX7 ∈ gw_T := in_gc_9 _ (List.mem_of_getElem? (i := 6) rfl)
theorem wi_289 : Cond.instantiable RX7 11 ∈ gw_T := in_gc_9 _ (List.mem_of_getElem? (i := 7) rfl)
theorem wi_291 : Cond.instanceMethod yX7_init ∈ gw_T := in_gc_9 _ (List.mem_of_getElem? (i := 8) rfl)
theorem wi_293 : Cond.methodLink RX7 3 objectInit ∈ gw_T := in_gc_9 _ (List.mem_of_getElem? (i := 9) rfl)
theorem wi_294 : Cond.fieldLink RX7 11 "RopeMoon$Walks" "hangs" "[J" ∈ gw_T := in_gc_9 _ (List.mem_of_getElem? (i := 10) rfl)
theorem wi_299 : Cond.fieldLink RX7 15 "RopeMoon$Walks" "places" "[I" ∈ gw_T := in_gc_9 _ (List.mem_of_getElem? (i := 11) rfl)
theorem wi_300 : Cond.fieldLink RX7 19 "RopeMoon$Walks" "ways" "[I" ∈ gw_T := in_gc_9 _ (List.mem_of_getElem? (i := 12) rfl)
theorem wi_302 : Cond.fieldLink RX7 22 "RopeMoon$Walks" "moves" "[I" ∈ gw_T := in_gc_9 _ (List.mem_of_getElem? (i := 13) rfl)
theorem wi_303 : Cond.fieldLink RX7 25 "RopeMoon$Walks" "twin" "[Z" ∈ gw_T := in_gc_9 _ (List.mem_of_getElem? (i := 14) rfl)
theorem wi_307 : Cond.fieldLink RX7 29 "RopeMoon$Walks" "slots" "[I" ∈ gw_T := in_gc_9 _ (List.mem_of_getElem? (i := 15) rfl)
theorem wi_308 : Cond.fieldLink RX7 32 "RopeMoon$Walks" "starts" "[I" ∈ gw_T := in_gc_9 _ (List.mem_of_getElem? (i := 16) rfl)
theorem wi_309 : Cond.fieldLink RX7 35 "RopeMoon$Walks" "strips" "I" ∈ gw_T := in_gc_9 _ (List.mem_of_getElem? (i := 17) rfl)
theorem wi_310 : Cond.fieldLink RX7 39 "RopeMoon$Walks" "from" "I" ∈ gw_T := in_gc_9 _ (List.mem_of_getElem? (i := 18) rfl)
theorem wi_311 : Cond.fieldLink RX7 42 "RopeMoon$Walks" "laid" "I" ∈ gw_T := in_gc_9 _ (List.mem_of_getElem? (i := 19) rfl)
theorem wi_312 : Cond.fieldLink RX7 45 "RopeMoon$Walks" "size" "I" ∈ gw_T := in_gc_10 _ (List.mem_of_getElem? (i := 0) rfl)
theorem wi_336 : Cond.arrayClass .boolean ∈ gw_T := in_gc_10 _ (List.mem_of_getElem? (i := 1) rfl)
theorem wi_337 : Cond.arrayClass .long ∈ gw_T := in_gc_10 _ (List.mem_of_getElem? (i := 2) rfl)
theorem wi_338 : Cond.classLink RX8 55 RX2 ∈ gw_T := in_gc_10 _ (List.mem_of_getElem? (i := 3) rfl)
theorem wi_339 : Cond.instantiable RX2 11 ∈ gw_T := in_gc_10 _ (List.mem_of_getElem? (i := 4) rfl)
theorem wi_341 : Cond.instanceMethod yX2_init ∈ gw_T := in_gc_10 _ (List.mem_of_getElem? (i := 5) rfl)
theorem wi_343 : Cond.methodLink RX2 3 objectInit ∈ gw_T := in_gc_10 _ (List.mem_of_getElem? (i := 6) rfl)
theorem wi_344 : Cond.classLink RX2 9 RX3 ∈ gw_T := in_gc_10 _ (List.mem_of_getElem? (i := 7) rfl)
theorem wi_346 : Cond.fieldLink RX2 12 "RopeMoon$Harvest" "over" "LRopeMoon$Plain;" ∈ gw_T := in_gc_10 _ (List.mem_of_getElem? (i := 8) rfl)
theorem wi_349 : Cond.fieldLink RX2 18 "RopeMoon$Harvest" "goal" "I" ∈ gw_T := in_gc_10 _ (List.mem_of_getElem? (i := 9) rfl)
theorem wi_350 : Cond.fieldLink RX2 22 "RopeMoon$Harvest" "weights" "[I" ∈ gw_T := in_gc_10 _ (List.mem_of_getElem? (i := 10) rfl)
theorem wi_351 : Cond.fieldLink RX2 26 "RopeMoon$Harvest" "caps" "[I" ∈ gw_T := in_gc_10 _ (List.mem_of_getElem? (i := 11) rfl)
theorem wi_354 : Cond.fieldLink RX2 29 "RopeMoon$Harvest" "firstWorths" "[I" ∈ gw_T := in_gc_10 _ (List.mem_of_getElem? (i := 12) rfl)
theorem wi_355 : Cond.fieldLink RX2 32 "RopeMoon$Harvest" "farmGot" "[I" ∈ gw_T := in_gc_10 _ (List.mem_of_getElem? (i := 13) rfl)
theorem wi_356 : Cond.fieldLink RX2 35 "RopeMoon$Harvest" "hungOver" "[I" ∈ gw_T := in_gc_10 _ (List.mem_of_getElem? (i := 14) rfl)
theorem wi_357 : Cond.fieldLink RX2 38 "RopeMoon$Harvest" "hungTimes" "[I" ∈ gw_T := in_gc_10 _ (List.mem_of_getElem? (i := 15) rfl)
theorem wi_358 : Cond.fieldLink RX2 41 "RopeMoon$Harvest" "hung" "I" ∈ gw_T := in_gc_10 _ (List.mem_of_getElem? (i := 16) rfl)
theorem wi_359 : Cond.fieldLink RX2 44 "RopeMoon$Harvest" "bestScore" "I" ∈ gw_T := in_gc_10 _ (List.mem_of_getElem? (i := 17) rfl)
theorem wi_361 : Cond.fieldLink RX2 47 "RopeMoon$Harvest" "bestState" "I" ∈ gw_T := in_gc_10 _ (List.mem_of_getElem? (i := 18) rfl)
theorem wi_386 : Cond.classLink RX8 62 RX5 ∈ gw_T := in_gc_10 _ (List.mem_of_getElem? (i := 19) rfl)
theorem wi_387 : Cond.instantiable RX5 5 ∈ gw_T := in_gc_11 _ (List.mem_of_getElem? (i := 0) rfl)
theorem wi_389 : Cond.instanceMethod yX5_init ∈ gw_T := in_gc_11 _ (List.mem_of_getElem? (i := 1) rfl)
theorem wi_391 : Cond.methodLink RX5 3 objectInit ∈ gw_T := in_gc_11 _ (List.mem_of_getElem? (i := 2) rfl)
theorem wi_392 : Cond.fieldLink RX5 9 "RopeMoon$Shifts" "fewerCaps" "[I" ∈ gw_T := in_gc_11 _ (List.mem_of_getElem? (i := 3) rfl)
theorem wi_393 : Cond.fieldLink RX5 15 "RopeMoon$Shifts" "moreCaps" "[I" ∈ gw_T := in_gc_11 _ (List.mem_of_getElem? (i := 4) rfl)
theorem wi_394 : Cond.fieldLink RX5 18 "RopeMoon$Shifts" "without" "[I" ∈ gw_T := in_gc_11 _ (List.mem_of_getElem? (i := 5) rfl)
theorem wi_395 : Cond.fieldLink RX5 21 "RopeMoon$Shifts" "with" "[I" ∈ gw_T := in_gc_11 _ (List.mem_of_getElem? (i := 6) rfl)
theorem wi_396 : Cond.fieldLink RX5 24 "RopeMoon$Shifts" "mostSheaves" "[I" ∈ gw_T := in_gc_11 _ (List.mem_of_getElem? (i := 7) rfl)
theorem wi_409 : Cond.classLink RX8 69 RX1 ∈ gw_T := in_gc_11 _ (List.mem_of_getElem? (i := 8) rfl)
theorem wi_410 : Cond.instantiable RX1 5 ∈ gw_T := in_gc_11 _ (List.mem_of_getElem? (i := 9) rfl)
theorem wi_412 : Cond.instanceMethod yX1_init ∈ gw_T := in_gc_11 _ (List.mem_of_getElem? (i := 10) rfl)
theorem wi_414 : Cond.methodLink RX1 3 objectInit ∈ gw_T := in_gc_11 _ (List.mem_of_getElem? (i := 11) rfl)
theorem wi_415 : Cond.fieldLink RX1 11 "RopeMoon$Ends" "lowCrops" "[J" ∈ gw_T := in_gc_11 _ (List.mem_of_getElem? (i := 12) rfl)
theorem wi_416 : Cond.fieldLink RX1 15 "RopeMoon$Ends" "highCrops" "[J" ∈ gw_T := in_gc_11 _ (List.mem_of_getElem? (i := 13) rfl)
theorem wi_417 : Cond.fieldLink RX1 18 "RopeMoon$Ends" "unlike" "I" ∈ gw_T := in_gc_11 _ (List.mem_of_getElem? (i := 14) rfl)
theorem wi_418 : Cond.fieldLink RX1 22 "RopeMoon$Ends" "explained" "I" ∈ gw_T := in_gc_11 _ (List.mem_of_getElem? (i := 15) rfl)
theorem wi_420 : Cond.fieldLink RX1 25 "RopeMoon$Ends" "sureStrips" "I" ∈ gw_T := in_gc_11 _ (List.mem_of_getElem? (i := 16) rfl)
theorem wi_433 : Cond.classLink RX8 76 RX0 ∈ gw_T := in_gc_11 _ (List.mem_of_getElem? (i := 17) rfl)
theorem wi_434 : Cond.instantiable RX0 2 ∈ gw_T := in_gc_11 _ (List.mem_of_getElem? (i := 18) rfl)
theorem wi_436 : Cond.instanceMethod yX0_init ∈ gw_T := in_gc_11 _ (List.mem_of_getElem? (i := 19) rfl)
theorem wi_438 : Cond.methodLink RX0 3 objectInit ∈ gw_T := in_gc_12 _ (List.mem_of_getElem? (i := 0) rfl)
theorem wi_439 : Cond.fieldLink RX0 9 "RopeMoon$Cover" "litFrom" "[I" ∈ gw_T := in_gc_12 _ (List.mem_of_getElem? (i := 1) rfl)
theorem wi_440 : Cond.fieldLink RX0 15 "RopeMoon$Cover" "lightersOf" "[I" ∈ gw_T := in_gc_12 _ (List.mem_of_getElem? (i := 2) rfl)
theorem wi_446 : Cond.instantiable RX4 4 ∈ gw_T := in_gc_12 _ (List.mem_of_getElem? (i := 3) rfl)
theorem wi_448 : Cond.instanceMethod yX4_init ∈ gw_T := in_gc_12 _ (List.mem_of_getElem? (i := 4) rfl)
theorem wi_450 : Cond.methodLink RX4 3 objectInit ∈ gw_T := in_gc_12 _ (List.mem_of_getElem? (i := 5) rfl)
theorem wi_451 : Cond.fieldLink RX4 9 "RopeMoon$Row" "missing" "Z" ∈ gw_T := in_gc_12 _ (List.mem_of_getElem? (i := 6) rfl)
theorem wi_453 : Cond.fieldLink RX4 15 "RopeMoon$Row" "sort" "I" ∈ gw_T := in_gc_12 _ (List.mem_of_getElem? (i := 7) rfl)
theorem wi_454 : Cond.fieldLink RX4 19 "RopeMoon$Row" "size" "I" ∈ gw_T := in_gc_12 _ (List.mem_of_getElem? (i := 8) rfl)
theorem wi_457 : Cond.fieldLink RX4 22 "RopeMoon$Row" "values" "[J" ∈ gw_T := in_gc_12 _ (List.mem_of_getElem? (i := 9) rfl)
theorem wi_467 : Cond.fieldLink RX8 9 "RopeMoon" "tape" "[B" ∈ gw_T := in_gc_12 _ (List.mem_of_getElem? (i := 10) rfl)
theorem wi_468 : Cond.fieldLink RX8 13 "RopeMoon" "tapeSize" "I" ∈ gw_T := in_gc_12 _ (List.mem_of_getElem? (i := 11) rfl)
theorem wi_469 : Cond.fieldLink RX8 20 "RopeMoon" "reader" "LRopeMoon$TextReader;" ∈ gw_T := in_gc_12 _ (List.mem_of_getElem? (i := 12) rfl)
theorem wi_470 : Cond.fieldLink RX8 27 "RopeMoon" "field" "LRopeMoon$Plain;" ∈ gw_T := in_gc_12 _ (List.mem_of_getElem? (i := 13) rfl)
theorem wi_471 : Cond.fieldLink RX8 31 "RopeMoon" "trial" "LRopeMoon$Plain;" ∈ gw_T := in_gc_12 _ (List.mem_of_getElem? (i := 14) rfl)
theorem wi_472 : Cond.fieldLink RX8 34 "RopeMoon" "images" "[LRopeMoon$Plain;" ∈ gw_T := in_gc_12 _ (List.mem_of_getElem? (i := 15) rfl)
theorem wi_473 : Cond.fieldLink RX8 38 "RopeMoon" "imageMade" "[Z" ∈ gw_T := in_gc_12 _ (List.mem_of_getElem? (i := 16) rfl)
theorem wi_474 : Cond.fieldLink RX8 44 "RopeMoon" "rows" "[LRopeMoon$Row;" ∈ gw_T := in_gc_12 _ (List.mem_of_getElem? (i := 17) rfl)
theorem wi_475 : Cond.fieldLink RX8 51 "RopeMoon" "walks" "LRopeMoon$Walks;" ∈ gw_T := in_gc_12 _ (List.mem_of_getElem? (i := 18) rfl)
theorem wi_476 : Cond.fieldLink RX8 58 "RopeMoon" "harvest" "LRopeMoon$Harvest;" ∈ gw_T := in_gc_12 _ (List.mem_of_getElem? (i := 19) rfl)
theorem wi_477 : Cond.fieldLink RX8 65 "RopeMoon" "shifts" "LRopeMoon$Shifts;" ∈ gw_T := in_gc_13 _ (List.mem_of_getElem? (i := 0) rfl)
theorem wi_478 : Cond.fieldLink RX8 72 "RopeMoon" "endings" "LRopeMoon$Ends;" ∈ gw_T := in_gc_13 _ (List.mem_of_getElem? (i := 1) rfl)
theorem wi_479 : Cond.fieldLink RX8 79 "RopeMoon" "cover" "LRopeMoon$Cover;" ∈ gw_T := in_gc_13 _ (List.mem_of_getElem? (i := 2) rfl)
theorem wi_507 : Cond.methodLink RL 13 yX8_feed ∈ gw_T := in_gc_13 _ (List.mem_of_getElem? (i := 3) rfl)
theorem wi_508 : Cond.instanceMethod yX8_feed ∈ gw_T := in_gc_13 _ (List.mem_of_getElem? (i := 4) rfl)
theorem wi_509 : Cond.selects RX8 yX8_feed yX8_feed ∈ gw_T := in_gc_13 _ (List.mem_of_getElem? (i := 5) rfl)
theorem wi_511 : Cond.methodLink RX8 84 yX8_tapeInt ∈ gw_T := in_gc_13 _ (List.mem_of_getElem? (i := 6) rfl)
theorem wi_513 : Cond.instanceMethod yX8_tapeInt ∈ gw_T := in_gc_13 _ (List.mem_of_getElem? (i := 7) rfl)
theorem wi_515 : Cond.methodLink RL 18 yX8_plain ∈ gw_T := in_gc_13 _ (List.mem_of_getElem? (i := 8) rfl)
theorem wi_516 : Cond.instanceMethod yX8_plain ∈ gw_T := in_gc_13 _ (List.mem_of_getElem? (i := 9) rfl)
theorem wi_517 : Cond.selects RX8 yX8_plain yX8_plain ∈ gw_T := in_gc_13 _ (List.mem_of_getElem? (i := 10) rfl)
theorem wi_521 : Cond.instanceMethod yX6_readText ∈ gw_T := in_gc_13 _ (List.mem_of_getElem? (i := 11) rfl)
theorem wi_523 : Cond.methodLink RX6 44 Lib.Math.min.name ∈ gw_T := in_gc_13 _ (List.mem_of_getElem? (i := 12) rfl)
theorem wi_524 : Cond.static Lib.Math.min.name ∈ gw_T := in_gc_13 _ (List.mem_of_getElem? (i := 13) rfl)
theorem wi_526 : Cond.methodLink RX6 50 Lib.Math.max.name ∈ gw_T := in_gc_13 _ (List.mem_of_getElem? (i := 14) rfl)
theorem wi_527 : Cond.static Lib.Math.max.name ∈ gw_T := in_gc_13 _ (List.mem_of_getElem? (i := 15) rfl)
theorem wi_529 : Cond.methodLink RX6 53 arraycopyName ∈ gw_T := in_gc_13 _ (List.mem_of_getElem? (i := 16) rfl)
theorem wi_530 : Cond.static arraycopyName ∈ gw_T := in_gc_13 _ (List.mem_of_getElem? (i := 17) rfl)
theorem wi_531 : Cond.native arraycopyName ∈ gw_T := in_gc_13 _ (List.mem_of_getElem? (i := 18) rfl)
theorem wi_533 : Cond.methodLink RX6 62 yX6_advance ∈ gw_T := in_gc_13 _ (List.mem_of_getElem? (i := 19) rfl)
theorem wi_535 : Cond.instanceMethod yX6_advance ∈ gw_T := in_gc_14 _ (List.mem_of_getElem? (i := 0) rfl)
theorem wi_537 : Cond.methodLink RX6 163 yX6_endOf ∈ gw_T := in_gc_14 _ (List.mem_of_getElem? (i := 1) rfl)
theorem wi_539 : Cond.instanceMethod yX6_endOf ∈ gw_T := in_gc_14 _ (List.mem_of_getElem? (i := 2) rfl)
theorem wi_541 : Cond.methodLink RX6 166 yX6_kindAt ∈ gw_T := in_gc_14 _ (List.mem_of_getElem? (i := 3) rfl)
theorem wi_543 : Cond.instanceMethod yX6_kindAt ∈ gw_T := in_gc_14 _ (List.mem_of_getElem? (i := 4) rfl)
theorem wi_545 : Cond.methodLink RX6 170 yX6_readValue ∈ gw_T := in_gc_14 _ (List.mem_of_getElem? (i := 5) rfl)
theorem wi_547 : Cond.instanceMethod yX6_readValue ∈ gw_T := in_gc_14 _ (List.mem_of_getElem? (i := 6) rfl)
theorem wi_549 : Cond.methodLink RX6 65 yX6_readLine ∈ gw_T := in_gc_14 _ (List.mem_of_getElem? (i := 7) rfl)
theorem wi_551 : Cond.instanceMethod yX6_readLine ∈ gw_T := in_gc_14 _ (List.mem_of_getElem? (i := 8) rfl)
theorem wi_554 : Cond.methodLink RX6 70 yX6_isWord ∈ gw_T := in_gc_14 _ (List.mem_of_getElem? (i := 9) rfl)
theorem wi_556 : Cond.instanceMethod yX6_isWord ∈ gw_T := in_gc_14 _ (List.mem_of_getElem? (i := 10) rfl)
theorem wi_558 : Cond.methodLink RX6 154 yJ0_length_8abf5 ∈ gw_T := in_gc_14 _ (List.mem_of_getElem? (i := 11) rfl)
theorem wi_559 : Cond.instanceMethod yJ0_length_8abf5 ∈ gw_T := in_gc_14 _ (List.mem_of_getElem? (i := 12) rfl)
theorem wi_560 : Cond.selects "java/lang/String" yJ0_length_8abf5 yJ0_length_8abf5 ∈ gw_T := in_gc_14 _ (List.mem_of_getElem? (i := 13) rfl)
theorem wi_562 : Cond.methodLink "java/lang/String" 335 yJ0_coder_7d493 ∈ gw_T := in_gc_14 _ (List.mem_of_getElem? (i := 14) rfl)
theorem wi_563 : Cond.instanceMethod yJ0_coder_7d493 ∈ gw_T := in_gc_14 _ (List.mem_of_getElem? (i := 15) rfl)
theorem wi_564 : Cond.selects "java/lang/String" yJ0_coder_7d493 yJ0_coder_7d493 ∈ gw_T := in_gc_14 _ (List.mem_of_getElem? (i := 16) rfl)
theorem wi_566 : Cond.fieldLink "java/lang/String" 38 "java/lang/String" "COMPACT_STRINGS" "Z" ∈ gw_T := in_gc_14 _ (List.mem_of_getElem? (i := 17) rfl)
theorem wi_568 : Cond.methodLink RX6 159 yJ0_charAt_5068e ∈ gw_T := in_gc_14 _ (List.mem_of_getElem? (i := 18) rfl)
theorem wi_569 : Cond.instanceMethod yJ0_charAt_5068e ∈ gw_T := in_gc_14 _ (List.mem_of_getElem? (i := 19) rfl)
theorem wi_570 : Cond.selects "java/lang/String" yJ0_charAt_5068e yJ0_charAt_5068e ∈ gw_T := in_gc_15 _ (List.mem_of_getElem? (i := 0) rfl)
theorem wi_572 : Cond.methodLink "java/lang/String" 492 yJ0_isLatin1_aae02 ∈ gw_T := in_gc_15 _ (List.mem_of_getElem? (i := 1) rfl)
theorem wi_573 : Cond.instanceMethod yJ0_isLatin1_aae02 ∈ gw_T := in_gc_15 _ (List.mem_of_getElem? (i := 2) rfl)
theorem wi_574 : Cond.selects "java/lang/String" yJ0_isLatin1_aae02 yJ0_isLatin1_aae02 ∈ gw_T := in_gc_15 _ (List.mem_of_getElem? (i := 3) rfl)
theorem wi_576 : Cond.methodLink "java/lang/String" 495 yJ1_charAt_3b067 ∈ gw_T := in_gc_15 _ (List.mem_of_getElem? (i := 4) rfl)
theorem wi_577 : Cond.static yJ1_charAt_3b067 ∈ gw_T := in_gc_15 _ (List.mem_of_getElem? (i := 5) rfl)
theorem wi_579 : Cond.methodLink "java/lang/StringLatin1" 9 yJ0_checkIndex_df160 ∈ gw_T := in_gc_15 _ (List.mem_of_getElem? (i := 6) rfl)
theorem wi_580 : Cond.static yJ0_checkIndex_df160 ∈ gw_T := in_gc_15 _ (List.mem_of_getElem? (i := 7) rfl)
theorem wi_582 : Cond.fieldLink "java/lang/String" 1053 "jdk/internal/util/Preconditions" "SIOOBE_FORMATTER" "Ljava/util/function/BiFunction;" ∈ gw_T := in_gc_15 _ (List.mem_of_getElem? (i := 8) rfl)
theorem wi_584 : Cond.methodLink "java/lang/String" 1059 yJ3_checkIndex_8e157 ∈ gw_T := in_gc_15 _ (List.mem_of_getElem? (i := 9) rfl)
theorem wi_585 : Cond.static yJ3_checkIndex_8e157 ∈ gw_T := in_gc_15 _ (List.mem_of_getElem? (i := 10) rfl)
theorem wi_587 : Cond.methodLink "java/lang/String" 498 yJ2_charAt_3b067 ∈ gw_T := in_gc_15 _ (List.mem_of_getElem? (i := 11) rfl)
theorem wi_588 : Cond.static yJ2_charAt_3b067 ∈ gw_T := in_gc_15 _ (List.mem_of_getElem? (i := 12) rfl)
theorem wi_590 : Cond.methodLink "java/lang/StringUTF16" 67 yJ2_checkIndex_2214a ∈ gw_T := in_gc_15 _ (List.mem_of_getElem? (i := 13) rfl)
theorem wi_591 : Cond.static yJ2_checkIndex_2214a ∈ gw_T := in_gc_15 _ (List.mem_of_getElem? (i := 14) rfl)
theorem wi_593 : Cond.methodLink "java/lang/StringUTF16" 48 yJ2_length_9d52b ∈ gw_T := in_gc_15 _ (List.mem_of_getElem? (i := 15) rfl)
theorem wi_594 : Cond.static yJ2_length_9d52b ∈ gw_T := in_gc_15 _ (List.mem_of_getElem? (i := 16) rfl)
theorem wi_596 : Cond.methodLink "java/lang/StringUTF16" 414 yJ0_checkIndex_df160 ∈ gw_T := in_gc_15 _ (List.mem_of_getElem? (i := 17) rfl)
theorem wi_597 : Cond.methodLink "java/lang/StringUTF16" 71 yJ2_getChar_3b067 ∈ gw_T := in_gc_15 _ (List.mem_of_getElem? (i := 18) rfl)
theorem wi_598 : Cond.static yJ2_getChar_3b067 ∈ gw_T := in_gc_15 _ (List.mem_of_getElem? (i := 19) rfl)
theorem wi_600 : Cond.fieldLink "java/lang/StringUTF16" 44 "java/lang/StringUTF16" "$assertionsDisabled" "Z" ∈ gw_T := in_gc_16 _ (List.mem_of_getElem? (i := 0) rfl)
theorem wi_602 : Cond.fieldLink "java/lang/StringUTF16" 59 "java/lang/StringUTF16" "HI_BYTE_SHIFT" "I" ∈ gw_T := in_gc_16 _ (List.mem_of_getElem? (i := 1) rfl)
theorem wi_604 : Cond.fieldLink "java/lang/StringUTF16" 63 "java/lang/StringUTF16" "LO_BYTE_SHIFT" "I" ∈ gw_T := in_gc_16 _ (List.mem_of_getElem? (i := 2) rfl)
theorem wi_606 : Cond.methodLink RX6 74 yX6_readStrip ∈ gw_T := in_gc_16 _ (List.mem_of_getElem? (i := 3) rfl)
theorem wi_608 : Cond.instanceMethod yX6_readStrip ∈ gw_T := in_gc_16 _ (List.mem_of_getElem? (i := 4) rfl)
theorem wi_610 : Cond.methodLink RX6 109 yX6_refuse ∈ gw_T := in_gc_16 _ (List.mem_of_getElem? (i := 5) rfl)
theorem wi_612 : Cond.instanceMethod yX6_refuse ∈ gw_T := in_gc_16 _ (List.mem_of_getElem? (i := 6) rfl)
theorem wi_614 : Cond.methodLink RX6 87 yX6_takeNumber ∈ gw_T := in_gc_16 _ (List.mem_of_getElem? (i := 7) rfl)
theorem wi_616 : Cond.instanceMethod yX6_takeNumber ∈ gw_T := in_gc_16 _ (List.mem_of_getElem? (i := 8) rfl)
theorem wi_619 : Cond.methodLink RX6 79 yX6_takeWord ∈ gw_T := in_gc_16 _ (List.mem_of_getElem? (i := 9) rfl)
theorem wi_621 : Cond.instanceMethod yX6_takeWord ∈ gw_T := in_gc_16 _ (List.mem_of_getElem? (i := 10) rfl)
theorem wi_627 : Cond.instanceMethod yX3_addStrip ∈ gw_T := in_gc_16 _ (List.mem_of_getElem? (i := 11) rfl)
theorem wi_630 : Cond.methodLink RX6 82 yX6_readLamp ∈ gw_T := in_gc_16 _ (List.mem_of_getElem? (i := 12) rfl)
theorem wi_632 : Cond.instanceMethod yX6_readLamp ∈ gw_T := in_gc_16 _ (List.mem_of_getElem? (i := 13) rfl)
theorem wi_640 : Cond.methodLink RX6 94 yX6_readBid ∈ gw_T := in_gc_16 _ (List.mem_of_getElem? (i := 14) rfl)
theorem wi_642 : Cond.instanceMethod yX6_readBid ∈ gw_T := in_gc_16 _ (List.mem_of_getElem? (i := 15) rfl)
theorem wi_645 : Cond.static yX8_isFarm ∈ gw_T := in_gc_16 _ (List.mem_of_getElem? (i := 16) rfl)
theorem wi_649 : Cond.methodLink RX6 113 yX6_endLine ∈ gw_T := in_gc_16 _ (List.mem_of_getElem? (i := 17) rfl)
theorem wi_651 : Cond.instanceMethod yX6_endLine ∈ gw_T := in_gc_16 _ (List.mem_of_getElem? (i := 18) rfl)
theorem wi_655 : Cond.instanceMethod yX3_become ∈ gw_T := in_gc_16 _ (List.mem_of_getElem? (i := 19) rfl)
theorem wi_657 : Cond.methodLink RX3 70 arraycopyName ∈ gw_T := in_gc_17 _ (List.mem_of_getElem? (i := 0) rfl)
theorem wi_658 : Cond.methodLink RL 23 yX8_fault ∈ gw_T := in_gc_17 _ (List.mem_of_getElem? (i := 1) rfl)
theorem wi_659 : Cond.instanceMethod yX8_fault ∈ gw_T := in_gc_17 _ (List.mem_of_getElem? (i := 2) rfl)
theorem wi_660 : Cond.selects RX8 yX8_fault yX8_fault ∈ gw_T := in_gc_17 _ (List.mem_of_getElem? (i := 3) rfl)
theorem wi_662 : Cond.methodLink RL 27 yX8_strip ∈ gw_T := in_gc_17 _ (List.mem_of_getElem? (i := 4) rfl)
theorem wi_663 : Cond.instanceMethod yX8_strip ∈ gw_T := in_gc_17 _ (List.mem_of_getElem? (i := 5) rfl)
theorem wi_664 : Cond.selects RX8 yX8_strip yX8_strip ∈ gw_T := in_gc_17 _ (List.mem_of_getElem? (i := 6) rfl)
theorem wi_668 : Cond.instanceMethod yX3_hasStrip ∈ gw_T := in_gc_17 _ (List.mem_of_getElem? (i := 7) rfl)
theorem wi_672 : Cond.instanceMethod yX3_lightOf ∈ gw_T := in_gc_17 _ (List.mem_of_getElem? (i := 8) rfl)
theorem wi_674 : Cond.methodLink RX3 93 yX3_unshadedLight ∈ gw_T := in_gc_17 _ (List.mem_of_getElem? (i := 9) rfl)
theorem wi_676 : Cond.instanceMethod yX3_unshadedLight ∈ gw_T := in_gc_17 _ (List.mem_of_getElem? (i := 10) rfl)
theorem wi_678 : Cond.methodLink RX3 80 Lib.Math.abs.name ∈ gw_T := in_gc_17 _ (List.mem_of_getElem? (i := 11) rfl)
theorem wi_679 : Cond.static Lib.Math.abs.name ∈ gw_T := in_gc_17 _ (List.mem_of_getElem? (i := 12) rfl)
theorem wi_681 : Cond.methodLink RX3 86 Lib.Math.max.name ∈ gw_T := in_gc_17 _ (List.mem_of_getElem? (i := 13) rfl)
theorem wi_682 : Cond.methodLink RX3 96 yX3_isShaded ∈ gw_T := in_gc_17 _ (List.mem_of_getElem? (i := 14) rfl)
theorem wi_684 : Cond.instanceMethod yX3_isShaded ∈ gw_T := in_gc_17 _ (List.mem_of_getElem? (i := 15) rfl)
theorem wi_686 : Cond.methodLink RX3 90 Lib.Math.min.name ∈ gw_T := in_gc_17 _ (List.mem_of_getElem? (i := 16) rfl)
theorem wi_687 : Cond.methodLink RL 32 yX8_farm ∈ gw_T := in_gc_17 _ (List.mem_of_getElem? (i := 17) rfl)
theorem wi_688 : Cond.instanceMethod yX8_farm ∈ gw_T := in_gc_17 _ (List.mem_of_getElem? (i := 18) rfl)
theorem wi_689 : Cond.selects RX8 yX8_farm yX8_farm ∈ gw_T := in_gc_17 _ (List.mem_of_getElem? (i := 19) rfl)
theorem wi_691 : Cond.methodLink RX8 135 yX8_isFarm ∈ gw_T := in_gc_18 _ (List.mem_of_getElem? (i := 0) rfl)
theorem wi_694 : Cond.instanceMethod yX3_sumOfFarm ∈ gw_T := in_gc_18 _ (List.mem_of_getElem? (i := 1) rfl)
theorem wi_698 : Cond.instanceMethod yX3_stripsOfFarm ∈ gw_T := in_gc_18 _ (List.mem_of_getElem? (i := 2) rfl)
theorem wi_700 : Cond.methodLink RL 36 yX8_light ∈ gw_T := in_gc_18 _ (List.mem_of_getElem? (i := 3) rfl)
theorem wi_701 : Cond.instanceMethod yX8_light ∈ gw_T := in_gc_18 _ (List.mem_of_getElem? (i := 4) rfl)
theorem wi_702 : Cond.selects RX8 yX8_light yX8_light ∈ gw_T := in_gc_18 _ (List.mem_of_getElem? (i := 5) rfl)
theorem wi_704 : Cond.methodLink RL 40 yX8_lit ∈ gw_T := in_gc_18 _ (List.mem_of_getElem? (i := 6) rfl)
theorem wi_705 : Cond.instanceMethod yX8_lit ∈ gw_T := in_gc_18 _ (List.mem_of_getElem? (i := 7) rfl)
theorem wi_706 : Cond.selects RX8 yX8_lit yX8_lit ∈ gw_T := in_gc_18 _ (List.mem_of_getElem? (i := 8) rfl)
theorem wi_710 : Cond.instanceMethod yX3_litFrom ∈ gw_T := in_gc_18 _ (List.mem_of_getElem? (i := 9) rfl)
theorem wi_712 : Cond.methodLink RX3 100 yX3_lightOf ∈ gw_T := in_gc_18 _ (List.mem_of_getElem? (i := 10) rfl)
theorem wi_713 : Cond.methodLink RL 44 yX8_shaded ∈ gw_T := in_gc_18 _ (List.mem_of_getElem? (i := 11) rfl)
theorem wi_714 : Cond.instanceMethod yX8_shaded ∈ gw_T := in_gc_18 _ (List.mem_of_getElem? (i := 12) rfl)
theorem wi_715 : Cond.selects RX8 yX8_shaded yX8_shaded ∈ gw_T := in_gc_18 _ (List.mem_of_getElem? (i := 13) rfl)
theorem wi_719 : Cond.instanceMethod yX3_shadedFrom ∈ gw_T := in_gc_18 _ (List.mem_of_getElem? (i := 14) rfl)
theorem wi_721 : Cond.methodLink RL 48 yX8_high ∈ gw_T := in_gc_18 _ (List.mem_of_getElem? (i := 15) rfl)
theorem wi_722 : Cond.instanceMethod yX8_high ∈ gw_T := in_gc_18 _ (List.mem_of_getElem? (i := 16) rfl)
theorem wi_723 : Cond.selects RX8 yX8_high yX8_high ∈ gw_T := in_gc_18 _ (List.mem_of_getElem? (i := 17) rfl)
theorem wi_727 : Cond.instanceMethod yX3_leastHeight ∈ gw_T := in_gc_18 _ (List.mem_of_getElem? (i := 18) rfl)
theorem wi_729 : Cond.methodLink RL 52 yX8_highFor ∈ gw_T := in_gc_18 _ (List.mem_of_getElem? (i := 19) rfl)
theorem wi_730 : Cond.instanceMethod yX8_highFor ∈ gw_T := in_gc_19 _ (List.mem_of_getElem? (i := 0) rfl)
theorem wi_731 : Cond.selects RX8 yX8_highFor yX8_highFor ∈ gw_T := in_gc_19 _ (List.mem_of_getElem? (i := 1) rfl)
theorem wi_735 : Cond.instanceMethod yX3_areStrips ∈ gw_T := in_gc_19 _ (List.mem_of_getElem? (i := 2) rfl)
theorem wi_737 : Cond.methodLink RX3 76 yX3_allStrips ∈ gw_T := in_gc_19 _ (List.mem_of_getElem? (i := 3) rfl)
theorem wi_739 : Cond.instanceMethod yX3_allStrips ∈ gw_T := in_gc_19 _ (List.mem_of_getElem? (i := 4) rfl)
theorem wi_743 : Cond.instanceMethod yX3_leastHeightForAll ∈ gw_T := in_gc_19 _ (List.mem_of_getElem? (i := 5) rfl)
theorem wi_745 : Cond.methodLink RX3 103 yX3_leastHeight ∈ gw_T := in_gc_19 _ (List.mem_of_getElem? (i := 6) rfl)
theorem wi_746 : Cond.methodLink RL 57 yX8_height ∈ gw_T := in_gc_19 _ (List.mem_of_getElem? (i := 7) rfl)
theorem wi_747 : Cond.instanceMethod yX8_height ∈ gw_T := in_gc_19 _ (List.mem_of_getElem? (i := 8) rfl)
theorem wi_748 : Cond.selects RX8 yX8_height yX8_height ∈ gw_T := in_gc_19 _ (List.mem_of_getElem? (i := 9) rfl)
theorem wi_750 : Cond.methodLink RL 61 yX8_fell ∈ gw_T := in_gc_19 _ (List.mem_of_getElem? (i := 10) rfl)
theorem wi_751 : Cond.instanceMethod yX8_fell ∈ gw_T := in_gc_19 _ (List.mem_of_getElem? (i := 11) rfl)
theorem wi_752 : Cond.selects RX8 yX8_fell yX8_fell ∈ gw_T := in_gc_19 _ (List.mem_of_getElem? (i := 12) rfl)
theorem wi_754 : Cond.methodLink RL 65 yX8_minute ∈ gw_T := in_gc_19 _ (List.mem_of_getElem? (i := 13) rfl)
theorem wi_755 : Cond.instanceMethod yX8_minute ∈ gw_T := in_gc_19 _ (List.mem_of_getElem? (i := 14) rfl)
theorem wi_756 : Cond.selects RX8 yX8_minute yX8_minute ∈ gw_T := in_gc_19 _ (List.mem_of_getElem? (i := 15) rfl)
theorem wi_760 : Cond.instanceMethod yX3_whyNot ∈ gw_T := in_gc_19 _ (List.mem_of_getElem? (i := 16) rfl)
theorem wi_762 : Cond.methodLink RX3 112 yX3_target ∈ gw_T := in_gc_19 _ (List.mem_of_getElem? (i := 17) rfl)
theorem wi_764 : Cond.instanceMethod yX3_target ∈ gw_T := in_gc_19 _ (List.mem_of_getElem? (i := 18) rfl)
theorem wi_766 : Cond.constantLong RX3 106 (2) ∈ gw_T := in_gc_19 _ (List.mem_of_getElem? (i := 19) rfl)
theorem wi_767 : Cond.methodLink RX3 108 yX3_hasStrip ∈ gw_T := in_gc_20 _ (List.mem_of_getElem? (i := 0) rfl)
theorem wi_771 : Cond.instanceMethod yX3_pass ∈ gw_T := in_gc_20 _ (List.mem_of_getElem? (i := 1) rfl)
theorem wi_773 : Cond.methodLink RL 69 yX8_judge ∈ gw_T := in_gc_20 _ (List.mem_of_getElem? (i := 2) rfl)
theorem wi_774 : Cond.instanceMethod yX8_judge ∈ gw_T := in_gc_20 _ (List.mem_of_getElem? (i := 3) rfl)
theorem wi_775 : Cond.selects RX8 yX8_judge yX8_judge ∈ gw_T := in_gc_20 _ (List.mem_of_getElem? (i := 4) rfl)
theorem wi_777 : Cond.methodLink RX8 182 yX8_isRow ∈ gw_T := in_gc_20 _ (List.mem_of_getElem? (i := 5) rfl)
theorem wi_778 : Cond.static yX8_isRow ∈ gw_T := in_gc_20 _ (List.mem_of_getElem? (i := 6) rfl)
theorem wi_782 : Cond.instanceMethod yX3_passAll ∈ gw_T := in_gc_20 _ (List.mem_of_getElem? (i := 7) rfl)
theorem wi_786 : Cond.instanceMethod yX4_valueAt ∈ gw_T := in_gc_20 _ (List.mem_of_getElem? (i := 8) rfl)
theorem wi_788 : Cond.constantLong RX4 41 (-1) ∈ gw_T := in_gc_20 _ (List.mem_of_getElem? (i := 9) rfl)
theorem wi_789 : Cond.methodLink RX3 125 yX3_whyNot ∈ gw_T := in_gc_20 _ (List.mem_of_getElem? (i := 10) rfl)
theorem wi_790 : Cond.methodLink RX3 129 yX3_pass ∈ gw_T := in_gc_20 _ (List.mem_of_getElem? (i := 11) rfl)
theorem wi_794 : Cond.instanceMethod yX3_sum ∈ gw_T := in_gc_20 _ (List.mem_of_getElem? (i := 12) rfl)
theorem wi_798 : Cond.instanceMethod yX3_hangsOver ∈ gw_T := in_gc_20 _ (List.mem_of_getElem? (i := 13) rfl)
theorem wi_800 : Cond.methodLink RL 73 yX8_perform ∈ gw_T := in_gc_20 _ (List.mem_of_getElem? (i := 14) rfl)
theorem wi_801 : Cond.instanceMethod yX8_perform ∈ gw_T := in_gc_20 _ (List.mem_of_getElem? (i := 15) rfl)
theorem wi_802 : Cond.selects RX8 yX8_perform yX8_perform ∈ gw_T := in_gc_20 _ (List.mem_of_getElem? (i := 16) rfl)
theorem wi_804 : Cond.methodLink RL 77 yX8_fill ∈ gw_T := in_gc_20 _ (List.mem_of_getElem? (i := 17) rfl)
theorem wi_805 : Cond.instanceMethod yX8_fill ∈ gw_T := in_gc_20 _ (List.mem_of_getElem? (i := 18) rfl)
theorem wi_806 : Cond.selects RX8 yX8_fill yX8_fill ∈ gw_T := in_gc_20 _ (List.mem_of_getElem? (i := 19) rfl)
theorem wi_808 : Cond.methodLink RX8 211 Lib.Math.min.name ∈ gw_T := in_gc_21 _ (List.mem_of_getElem? (i := 0) rfl)
theorem wi_809 : Cond.methodLink RL 81 yX8_night ∈ gw_T := in_gc_21 _ (List.mem_of_getElem? (i := 1) rfl)
theorem wi_810 : Cond.instanceMethod yX8_night ∈ gw_T := in_gc_21 _ (List.mem_of_getElem? (i := 2) rfl)
theorem wi_811 : Cond.selects RX8 yX8_night yX8_night ∈ gw_T := in_gc_21 _ (List.mem_of_getElem? (i := 3) rfl)
theorem wi_813 : Cond.methodLink RX8 219 yX8_nextDraw ∈ gw_T := in_gc_21 _ (List.mem_of_getElem? (i := 4) rfl)
theorem wi_814 : Cond.static yX8_nextDraw ∈ gw_T := in_gc_21 _ (List.mem_of_getElem? (i := 5) rfl)
theorem wi_816 : Cond.constant RX8 349 (1103515245) ∈ gw_T := in_gc_21 _ (List.mem_of_getElem? (i := 6) rfl)
theorem wi_817 : Cond.methodLink RL 85 yX8_walk ∈ gw_T := in_gc_21 _ (List.mem_of_getElem? (i := 7) rfl)
theorem wi_818 : Cond.instanceMethod yX8_walk ∈ gw_T := in_gc_21 _ (List.mem_of_getElem? (i := 8) rfl)
theorem wi_819 : Cond.selects RX8 yX8_walk yX8_walk ∈ gw_T := in_gc_21 _ (List.mem_of_getElem? (i := 9) rfl)
theorem wi_821 : Cond.methodLink RL 90 yX8_most ∈ gw_T := in_gc_21 _ (List.mem_of_getElem? (i := 10) rfl)
theorem wi_822 : Cond.instanceMethod yX8_most ∈ gw_T := in_gc_21 _ (List.mem_of_getElem? (i := 11) rfl)
theorem wi_823 : Cond.selects RX8 yX8_most yX8_most ∈ gw_T := in_gc_21 _ (List.mem_of_getElem? (i := 12) rfl)
theorem wi_825 : Cond.methodLink RX8 225 yX8_isAskable ∈ gw_T := in_gc_21 _ (List.mem_of_getElem? (i := 13) rfl)
theorem wi_826 : Cond.static yX8_isAskable ∈ gw_T := in_gc_21 _ (List.mem_of_getElem? (i := 14) rfl)
theorem wi_828 : Cond.methodLink RX8 229 yX8_refusedSearch ∈ gw_T := in_gc_21 _ (List.mem_of_getElem? (i := 15) rfl)
theorem wi_830 : Cond.instanceMethod yX8_refusedSearch ∈ gw_T := in_gc_21 _ (List.mem_of_getElem? (i := 16) rfl)
theorem wi_832 : Cond.methodLink RX8 233 yX8_possibleMinutes ∈ gw_T := in_gc_21 _ (List.mem_of_getElem? (i := 17) rfl)
theorem wi_834 : Cond.instanceMethod yX8_possibleMinutes ∈ gw_T := in_gc_21 _ (List.mem_of_getElem? (i := 18) rfl)
theorem wi_836 : Cond.methodLink RX8 236 yX8_seek ∈ gw_T := in_gc_21 _ (List.mem_of_getElem? (i := 19) rfl)
theorem wi_838 : Cond.instanceMethod yX8_seek ∈ gw_T := in_gc_22 _ (List.mem_of_getElem? (i := 0) rfl)
theorem wi_842 : Cond.instanceMethod yX7_lay ∈ gw_T := in_gc_22 _ (List.mem_of_getElem? (i := 1) rfl)
theorem wi_844 : Cond.methodLink RX7 48 yX7_begin ∈ gw_T := in_gc_22 _ (List.mem_of_getElem? (i := 2) rfl)
theorem wi_846 : Cond.instanceMethod yX7_begin ∈ gw_T := in_gc_22 _ (List.mem_of_getElem? (i := 3) rfl)
theorem wi_848 : Cond.methodLink RX7 61 yJ7_fill_53178 ∈ gw_T := in_gc_22 _ (List.mem_of_getElem? (i := 4) rfl)
theorem wi_849 : Cond.methodLink RX7 52 Lib.Math.min.name ∈ gw_T := in_gc_22 _ (List.mem_of_getElem? (i := 5) rfl)
theorem wi_850 : Cond.methodLink RX7 58 yX7_layMinute ∈ gw_T := in_gc_22 _ (List.mem_of_getElem? (i := 6) rfl)
theorem wi_852 : Cond.instanceMethod yX7_layMinute ∈ gw_T := in_gc_22 _ (List.mem_of_getElem? (i := 7) rfl)
theorem wi_854 : Cond.methodLink RX7 70 yX7_end ∈ gw_T := in_gc_22 _ (List.mem_of_getElem? (i := 8) rfl)
theorem wi_856 : Cond.instanceMethod yX7_end ∈ gw_T := in_gc_22 _ (List.mem_of_getElem? (i := 9) rfl)
theorem wi_858 : Cond.methodLink RX7 67 Lib.Math.max.name ∈ gw_T := in_gc_22 _ (List.mem_of_getElem? (i := 10) rfl)
theorem wi_859 : Cond.methodLink RX7 74 yX7_first ∈ gw_T := in_gc_22 _ (List.mem_of_getElem? (i := 11) rfl)
theorem wi_861 : Cond.instanceMethod yX7_first ∈ gw_T := in_gc_22 _ (List.mem_of_getElem? (i := 12) rfl)
theorem wi_863 : Cond.methodLink RX7 77 yX7_arrive ∈ gw_T := in_gc_22 _ (List.mem_of_getElem? (i := 13) rfl)
theorem wi_865 : Cond.instanceMethod yX7_arrive ∈ gw_T := in_gc_22 _ (List.mem_of_getElem? (i := 14) rfl)
theorem wi_867 : Cond.constantLong RX7 81 (-7046029254386353131) ∈ gw_T := in_gc_22 _ (List.mem_of_getElem? (i := 15) rfl)
theorem wi_868 : Cond.methodLink RX7 83 yX7_append ∈ gw_T := in_gc_22 _ (List.mem_of_getElem? (i := 16) rfl)
theorem wi_870 : Cond.instanceMethod yX7_append ∈ gw_T := in_gc_22 _ (List.mem_of_getElem? (i := 17) rfl)
theorem wi_874 : Cond.instanceMethod yX2_prepare ∈ gw_T := in_gc_22 _ (List.mem_of_getElem? (i := 18) rfl)
theorem wi_876 : Cond.methodLink RX2 56 yX2_weightOf ∈ gw_T := in_gc_22 _ (List.mem_of_getElem? (i := 19) rfl)
theorem wi_878 : Cond.instanceMethod yX2_weightOf ∈ gw_T := in_gc_23 _ (List.mem_of_getElem? (i := 0) rfl)
theorem wi_880 : Cond.methodLink RX2 60 yX2_fillCaps ∈ gw_T := in_gc_23 _ (List.mem_of_getElem? (i := 1) rfl)
theorem wi_882 : Cond.instanceMethod yX2_fillCaps ∈ gw_T := in_gc_23 _ (List.mem_of_getElem? (i := 2) rfl)
theorem wi_884 : Cond.methodLink RX2 82 Lib.Math.max.name ∈ gw_T := in_gc_23 _ (List.mem_of_getElem? (i := 3) rfl)
theorem wi_886 : Cond.methodLink RX2 71 Lib.Math.min.name ∈ gw_T := in_gc_23 _ (List.mem_of_getElem? (i := 4) rfl)
theorem wi_887 : Cond.methodLink RX2 64 yX2_firstWorth ∈ gw_T := in_gc_23 _ (List.mem_of_getElem? (i := 5) rfl)
theorem wi_889 : Cond.instanceMethod yX2_firstWorth ∈ gw_T := in_gc_23 _ (List.mem_of_getElem? (i := 6) rfl)
theorem wi_893 : Cond.instanceMethod yX2_seekBest ∈ gw_T := in_gc_23 _ (List.mem_of_getElem? (i := 7) rfl)
theorem wi_897 : Cond.methodLink RX2 104 yX2_open ∈ gw_T := in_gc_23 _ (List.mem_of_getElem? (i := 8) rfl)
theorem wi_899 : Cond.instanceMethod yX2_open ∈ gw_T := in_gc_23 _ (List.mem_of_getElem? (i := 9) rfl)
theorem wi_901 : Cond.constantLong RX2 118 (15) ∈ gw_T := in_gc_23 _ (List.mem_of_getElem? (i := 10) rfl)
theorem wi_902 : Cond.methodLink RX2 108 yX2_couldBeWorth ∈ gw_T := in_gc_23 _ (List.mem_of_getElem? (i := 11) rfl)
theorem wi_904 : Cond.instanceMethod yX2_couldBeWorth ∈ gw_T := in_gc_23 _ (List.mem_of_getElem? (i := 12) rfl)
theorem wi_906 : Cond.methodLink RX2 112 yX2_fairScore ∈ gw_T := in_gc_23 _ (List.mem_of_getElem? (i := 13) rfl)
theorem wi_908 : Cond.instanceMethod yX2_fairScore ∈ gw_T := in_gc_23 _ (List.mem_of_getElem? (i := 14) rfl)
theorem wi_910 : Cond.methodLink RX2 124 yJ7_fill_53178 ∈ gw_T := in_gc_23 _ (List.mem_of_getElem? (i := 15) rfl)
theorem wi_911 : Cond.methodLink RX2 120 yX2_cutOf ∈ gw_T := in_gc_23 _ (List.mem_of_getElem? (i := 16) rfl)
theorem wi_913 : Cond.instanceMethod yX2_cutOf ∈ gw_T := in_gc_23 _ (List.mem_of_getElem? (i := 17) rfl)
theorem wi_915 : Cond.methodLink RX2 115 yX2_weighedScore ∈ gw_T := in_gc_23 _ (List.mem_of_getElem? (i := 18) rfl)
theorem wi_917 : Cond.instanceMethod yX2_weighedScore ∈ gw_T := in_gc_23 _ (List.mem_of_getElem? (i := 19) rfl)
theorem wi_919 : Cond.methodLink RX8 243 yX8_foundAnswer ∈ gw_T := in_gc_24 _ (List.mem_of_getElem? (i := 0) rfl)
theorem wi_921 : Cond.instanceMethod yX8_foundAnswer ∈ gw_T := in_gc_24 _ (List.mem_of_getElem? (i := 1) rfl)
theorem wi_925 : Cond.instanceMethod yX7_moveOf ∈ gw_T := in_gc_24 _ (List.mem_of_getElem? (i := 2) rfl)
theorem wi_927 : Cond.methodLink RL 94 yX8_dearest ∈ gw_T := in_gc_24 _ (List.mem_of_getElem? (i := 3) rfl)
theorem wi_928 : Cond.instanceMethod yX8_dearest ∈ gw_T := in_gc_24 _ (List.mem_of_getElem? (i := 4) rfl)
theorem wi_929 : Cond.selects RX8 yX8_dearest yX8_dearest ∈ gw_T := in_gc_24 _ (List.mem_of_getElem? (i := 5) rfl)
theorem wi_931 : Cond.methodLink RL 98 yX8_fairest ∈ gw_T := in_gc_24 _ (List.mem_of_getElem? (i := 6) rfl)
theorem wi_932 : Cond.instanceMethod yX8_fairest ∈ gw_T := in_gc_24 _ (List.mem_of_getElem? (i := 7) rfl)
theorem wi_933 : Cond.selects RX8 yX8_fairest yX8_fairest ∈ gw_T := in_gc_24 _ (List.mem_of_getElem? (i := 8) rfl)
theorem wi_936 : Cond.static yX2_fewestIn ∈ gw_T := in_gc_24 _ (List.mem_of_getElem? (i := 9) rfl)
theorem wi_939 : Cond.static yX2_allIn ∈ gw_T := in_gc_24 _ (List.mem_of_getElem? (i := 10) rfl)
theorem wi_941 : Cond.methodLink RL 102 yX8_alone ∈ gw_T := in_gc_24 _ (List.mem_of_getElem? (i := 11) rfl)
theorem wi_942 : Cond.instanceMethod yX8_alone ∈ gw_T := in_gc_24 _ (List.mem_of_getElem? (i := 12) rfl)
theorem wi_943 : Cond.selects RX8 yX8_alone yX8_alone ∈ gw_T := in_gc_24 _ (List.mem_of_getElem? (i := 13) rfl)
theorem wi_945 : Cond.methodLink RL 106 yX8_pays ∈ gw_T := in_gc_24 _ (List.mem_of_getElem? (i := 14) rfl)
theorem wi_946 : Cond.instanceMethod yX8_pays ∈ gw_T := in_gc_24 _ (List.mem_of_getElem? (i := 15) rfl)
theorem wi_947 : Cond.selects RX8 yX8_pays yX8_pays ∈ gw_T := in_gc_24 _ (List.mem_of_getElem? (i := 16) rfl)
theorem wi_951 : Cond.instanceMethod yX2_bidsOf ∈ gw_T := in_gc_24 _ (List.mem_of_getElem? (i := 17) rfl)
theorem wi_953 : Cond.methodLink RL 110 yX8_shifted ∈ gw_T := in_gc_24 _ (List.mem_of_getElem? (i := 18) rfl)
theorem wi_954 : Cond.instanceMethod yX8_shifted ∈ gw_T := in_gc_24 _ (List.mem_of_getElem? (i := 19) rfl)
theorem wi_955 : Cond.selects RX8 yX8_shifted yX8_shifted ∈ gw_T := in_gc_25 _ (List.mem_of_getElem? (i := 0) rfl)
theorem wi_959 : Cond.instanceMethod yX5_seekAll ∈ gw_T := in_gc_25 _ (List.mem_of_getElem? (i := 1) rfl)
theorem wi_962 : Cond.methodLink RX5 33 yJ7_fill_53178 ∈ gw_T := in_gc_25 _ (List.mem_of_getElem? (i := 2) rfl)
theorem wi_966 : Cond.methodLink RX5 59 yX5_weigh ∈ gw_T := in_gc_25 _ (List.mem_of_getElem? (i := 3) rfl)
theorem wi_968 : Cond.instanceMethod yX5_weigh ∈ gw_T := in_gc_25 _ (List.mem_of_getElem? (i := 4) rfl)
theorem wi_971 : Cond.methodLink RX8 267 yX8_canShift ∈ gw_T := in_gc_25 _ (List.mem_of_getElem? (i := 5) rfl)
theorem wi_973 : Cond.instanceMethod yX8_canShift ∈ gw_T := in_gc_25 _ (List.mem_of_getElem? (i := 6) rfl)
theorem wi_975 : Cond.methodLink RL 114 yX8_felled ∈ gw_T := in_gc_25 _ (List.mem_of_getElem? (i := 7) rfl)
theorem wi_976 : Cond.instanceMethod yX8_felled ∈ gw_T := in_gc_25 _ (List.mem_of_getElem? (i := 8) rfl)
theorem wi_977 : Cond.selects RX8 yX8_felled yX8_felled ∈ gw_T := in_gc_25 _ (List.mem_of_getElem? (i := 9) rfl)
theorem wi_979 : Cond.methodLink RL 118 yX8_soonest ∈ gw_T := in_gc_25 _ (List.mem_of_getElem? (i := 10) rfl)
theorem wi_980 : Cond.instanceMethod yX8_soonest ∈ gw_T := in_gc_25 _ (List.mem_of_getElem? (i := 11) rfl)
theorem wi_981 : Cond.selects RX8 yX8_soonest yX8_soonest ∈ gw_T := in_gc_25 _ (List.mem_of_getElem? (i := 12) rfl)
theorem wi_983 : Cond.methodLink RL 122 yX8_dark ∈ gw_T := in_gc_25 _ (List.mem_of_getElem? (i := 13) rfl)
theorem wi_984 : Cond.instanceMethod yX8_dark ∈ gw_T := in_gc_25 _ (List.mem_of_getElem? (i := 14) rfl)
theorem wi_985 : Cond.selects RX8 yX8_dark yX8_dark ∈ gw_T := in_gc_25 _ (List.mem_of_getElem? (i := 15) rfl)
theorem wi_988 : Cond.methodLink RL 127 yX8_ends ∈ gw_T := in_gc_25 _ (List.mem_of_getElem? (i := 16) rfl)
theorem wi_989 : Cond.instanceMethod yX8_ends ∈ gw_T := in_gc_25 _ (List.mem_of_getElem? (i := 17) rfl)
theorem wi_990 : Cond.selects RX8 yX8_ends yX8_ends ∈ gw_T := in_gc_25 _ (List.mem_of_getElem? (i := 18) rfl)
theorem wi_994 : Cond.instanceMethod yX1_countUnlike ∈ gw_T := in_gc_25 _ (List.mem_of_getElem? (i := 19) rfl)
theorem wi_999 : Cond.methodLink RX1 50 yX1_packed ∈ gw_T := in_gc_26 _ (List.mem_of_getElem? (i := 0) rfl)
theorem wi_1000 : Cond.static yX1_packed ∈ gw_T := in_gc_26 _ (List.mem_of_getElem? (i := 1) rfl)
theorem wi_1002 : Cond.methodLink RX1 67 Lib.Math.min.name ∈ gw_T := in_gc_26 _ (List.mem_of_getElem? (i := 2) rfl)
theorem wi_1004 : Cond.methodLink RX1 54 yX1_keep ∈ gw_T := in_gc_26 _ (List.mem_of_getElem? (i := 3) rfl)
theorem wi_1006 : Cond.instanceMethod yX1_keep ∈ gw_T := in_gc_26 _ (List.mem_of_getElem? (i := 4) rfl)
theorem wi_1008 : Cond.methodLink RL 131 yX8_halts ∈ gw_T := in_gc_26 _ (List.mem_of_getElem? (i := 5) rfl)
theorem wi_1009 : Cond.instanceMethod yX8_halts ∈ gw_T := in_gc_26 _ (List.mem_of_getElem? (i := 6) rfl)
theorem wi_1010 : Cond.selects RX8 yX8_halts yX8_halts ∈ gw_T := in_gc_26 _ (List.mem_of_getElem? (i := 7) rfl)
theorem wi_1014 : Cond.instanceMethod yX0_fewest ∈ gw_T := in_gc_26 _ (List.mem_of_getElem? (i := 8) rfl)
theorem wi_1016 : Cond.methodLink RX0 18 yX0_look ∈ gw_T := in_gc_26 _ (List.mem_of_getElem? (i := 9) rfl)
theorem wi_1018 : Cond.instanceMethod yX0_look ∈ gw_T := in_gc_26 _ (List.mem_of_getElem? (i := 10) rfl)
theorem wi_1020 : Cond.methodLink RX0 40 yJ7_fill_53178 ∈ gw_T := in_gc_26 _ (List.mem_of_getElem? (i := 11) rfl)
theorem wi_1023 : Cond.methodLink RX0 32 yX0_canLight ∈ gw_T := in_gc_26 _ (List.mem_of_getElem? (i := 12) rfl)
theorem wi_1024 : Cond.static yX0_canLight ∈ gw_T := in_gc_26 _ (List.mem_of_getElem? (i := 13) rfl)
theorem wi_1026 : Cond.methodLink RX0 49 yJ6_numberOfTrailingZeros_0f7a4 ∈ gw_T := in_gc_26 _ (List.mem_of_getElem? (i := 14) rfl)
theorem wi_1027 : Cond.static yJ6_numberOfTrailingZeros_0f7a4 ∈ gw_T := in_gc_26 _ (List.mem_of_getElem? (i := 15) rfl)
theorem wi_1029 : Cond.constant "java/lang/Integer" 264 (65536) ∈ gw_T := in_gc_26 _ (List.mem_of_getElem? (i := 16) rfl)
theorem wi_1030 : Cond.methodLink RX0 36 yX0_leastBits ∈ gw_T := in_gc_26 _ (List.mem_of_getElem? (i := 17) rfl)
theorem wi_1032 : Cond.instanceMethod yX0_leastBits ∈ gw_T := in_gc_26 _ (List.mem_of_getElem? (i := 18) rfl)
theorem wi_1034 : Cond.methodLink RL 135 yX8_tour ∈ gw_T := in_gc_26 _ (List.mem_of_getElem? (i := 19) rfl)
theorem wi_1035 : Cond.instanceMethod yX8_tour ∈ gw_T := in_gc_27 _ (List.mem_of_getElem? (i := 0) rfl)
theorem wi_1036 : Cond.selects RX8 yX8_tour yX8_tour ∈ gw_T := in_gc_27 _ (List.mem_of_getElem? (i := 1) rfl)
theorem wi_1038 : Cond.methodLink RX8 295 yJ6_numberOfTrailingZeros_0f7a4 ∈ gw_T := in_gc_27 _ (List.mem_of_getElem? (i := 2) rfl)
theorem wi_1039 : Cond.methodLink RX8 300 yJ6_numberOfLeadingZeros_0f7a4 ∈ gw_T := in_gc_27 _ (List.mem_of_getElem? (i := 3) rfl)
theorem wi_1040 : Cond.static yJ6_numberOfLeadingZeros_0f7a4 ∈ gw_T := in_gc_27 _ (List.mem_of_getElem? (i := 4) rfl)
theorem wi_1042 : Cond.methodLink RX8 303 Lib.Math.max.name ∈ gw_T := in_gc_27 _ (List.mem_of_getElem? (i := 5) rfl)
theorem wi_1043 : Cond.methodLink RL 139 yX8_stubble ∈ gw_T := in_gc_27 _ (List.mem_of_getElem? (i := 6) rfl)
theorem wi_1044 : Cond.instanceMethod yX8_stubble ∈ gw_T := in_gc_27 _ (List.mem_of_getElem? (i := 7) rfl)
theorem wi_1045 : Cond.selects RX8 yX8_stubble yX8_stubble ∈ gw_T := in_gc_27 _ (List.mem_of_getElem? (i := 8) rfl)
theorem wi_1047 : Cond.methodLink RX8 306 yX8_refusedStubble ∈ gw_T := in_gc_27 _ (List.mem_of_getElem? (i := 9) rfl)
theorem wi_1049 : Cond.instanceMethod yX8_refusedStubble ∈ gw_T := in_gc_27 _ (List.mem_of_getElem? (i := 10) rfl)
theorem wi_1051 : Cond.methodLink RX8 309 yX8_explain ∈ gw_T := in_gc_27 _ (List.mem_of_getElem? (i := 11) rfl)
theorem wi_1053 : Cond.instanceMethod yX8_explain ∈ gw_T := in_gc_27 _ (List.mem_of_getElem? (i := 12) rfl)
theorem wi_1057 : Cond.instanceMethod yX1_explainNothing ∈ gw_T := in_gc_27 _ (List.mem_of_getElem? (i := 13) rfl)
theorem wi_1061 : Cond.instanceMethod yX1_explain ∈ gw_T := in_gc_27 _ (List.mem_of_getElem? (i := 14) rfl)
theorem wi_1063 : Cond.methodLink RX1 84 yX1_explainNothing ∈ gw_T := in_gc_27 _ (List.mem_of_getElem? (i := 15) rfl)
theorem wi_1065 : Cond.methodLink RX1 91 yX1_leaves ∈ gw_T := in_gc_27 _ (List.mem_of_getElem? (i := 16) rfl)
theorem wi_1066 : Cond.static yX1_leaves ∈ gw_T := in_gc_27 _ (List.mem_of_getElem? (i := 17) rfl)
theorem wi_1071 : Cond.instanceMethod yX2_stripsHungOver ∈ gw_T := in_gc_27 _ (List.mem_of_getElem? (i := 18) rfl)
theorem wi_1073 : Cond.methodLink RL 143 yX8_sure ∈ gw_T := in_gc_27 _ (List.mem_of_getElem? (i := 19) rfl)
theorem wi_1074 : Cond.instanceMethod yX8_sure ∈ gw_T := in_gc_28 _ (List.mem_of_getElem? (i := 0) rfl)
theorem wi_1075 : Cond.selects RX8 yX8_sure yX8_sure ∈ gw_T := in_gc_28 _ (List.mem_of_getElem? (i := 1) rfl)
theorem wi_1077 : Cond.methodLink RL 147 yX8_meets ∈ gw_T := in_gc_28 _ (List.mem_of_getElem? (i := 2) rfl)
theorem wi_1078 : Cond.instanceMethod yX8_meets ∈ gw_T := in_gc_28 _ (List.mem_of_getElem? (i := 3) rfl)
theorem wi_1079 : Cond.selects RX8 yX8_meets yX8_meets ∈ gw_T := in_gc_28 _ (List.mem_of_getElem? (i := 4) rfl)
theorem wi_1081 : Cond.methodLink RX8 319 yX8_refusedMeeting ∈ gw_T := in_gc_28 _ (List.mem_of_getElem? (i := 5) rfl)
theorem wi_1083 : Cond.instanceMethod yX8_refusedMeeting ∈ gw_T := in_gc_28 _ (List.mem_of_getElem? (i := 6) rfl)
theorem wi_1085 : Cond.methodLink RX8 322 yX8_firstMeeting ∈ gw_T := in_gc_28 _ (List.mem_of_getElem? (i := 7) rfl)
theorem wi_1087 : Cond.instanceMethod yX8_firstMeeting ∈ gw_T := in_gc_28 _ (List.mem_of_getElem? (i := 8) rfl)
theorem wi_1089 : Cond.methodLink RL 151 yX8_delay ∈ gw_T := in_gc_28 _ (List.mem_of_getElem? (i := 9) rfl)
theorem wi_1090 : Cond.instanceMethod yX8_delay ∈ gw_T := in_gc_28 _ (List.mem_of_getElem? (i := 10) rfl)
theorem wi_1091 : Cond.selects RX8 yX8_delay yX8_delay ∈ gw_T := in_gc_28 _ (List.mem_of_getElem? (i := 11) rfl)
theorem wi_1093 : Cond.methodLink RL 155 yX8_numbers ∈ gw_T := in_gc_28 _ (List.mem_of_getElem? (i := 12) rfl)
theorem wi_1094 : Cond.instanceMethod yX8_numbers ∈ gw_T := in_gc_28 _ (List.mem_of_getElem? (i := 13) rfl)
theorem wi_1095 : Cond.selects RX8 yX8_numbers yX8_numbers ∈ gw_T := in_gc_28 _ (List.mem_of_getElem? (i := 14) rfl)
theorem wi_1099 : Cond.instanceMethod yX4_renew ∈ gw_T := in_gc_28 _ (List.mem_of_getElem? (i := 15) rfl)
theorem wi_1101 : Cond.methodLink RX4 26 Lib.Math.min.name ∈ gw_T := in_gc_28 _ (List.mem_of_getElem? (i := 16) rfl)
theorem wi_1102 : Cond.methodLink RX4 32 Lib.Math.max.name ∈ gw_T := in_gc_28 _ (List.mem_of_getElem? (i := 17) rfl)
theorem wi_1103 : Cond.methodLink RX4 35 yJ7_fill_d0a16 ∈ gw_T := in_gc_28 _ (List.mem_of_getElem? (i := 18) rfl)
theorem wi_1104 : Cond.static yJ7_fill_d0a16 ∈ gw_T := in_gc_28 _ (List.mem_of_getElem? (i := 19) rfl)
theorem wi_1106 : Cond.methodLink RL 161 yX8_write ∈ gw_T := in_gc_29 _ (List.mem_of_getElem? (i := 0) rfl)
theorem wi_1107 : Cond.instanceMethod yX8_write ∈ gw_T := in_gc_29 _ (List.mem_of_getElem? (i := 1) rfl)
theorem wi_1108 : Cond.selects RX8 yX8_write yX8_write ∈ gw_T := in_gc_29 _ (List.mem_of_getElem? (i := 2) rfl)
theorem wi_1110 : Cond.constantLong RX8 330 (-2) ∈ gw_T := in_gc_29 _ (List.mem_of_getElem? (i := 3) rfl)
theorem wi_1111 : Cond.constantLong RX8 332 (-6) ∈ gw_T := in_gc_29 _ (List.mem_of_getElem? (i := 4) rfl)
theorem wi_1112 : Cond.constantLong RX8 334 (-7) ∈ gw_T := in_gc_29 _ (List.mem_of_getElem? (i := 5) rfl)
theorem wi_1115 : Cond.instanceMethod yX4_put ∈ gw_T := in_gc_29 _ (List.mem_of_getElem? (i := 6) rfl)
theorem wi_1117 : Cond.constantLong RX4 43 (-7) ∈ gw_T := in_gc_29 _ (List.mem_of_getElem? (i := 7) rfl)
theorem wi_1118 : Cond.methodLink RX4 45 yX4_cut ∈ gw_T := in_gc_29 _ (List.mem_of_getElem? (i := 8) rfl)
theorem wi_1120 : Cond.instanceMethod yX4_cut ∈ gw_T := in_gc_29 _ (List.mem_of_getElem? (i := 9) rfl)
theorem wi_1122 : Cond.methodLink RL 166 yX8_copy ∈ gw_T := in_gc_29 _ (List.mem_of_getElem? (i := 10) rfl)
theorem wi_1123 : Cond.instanceMethod yX8_copy ∈ gw_T := in_gc_29 _ (List.mem_of_getElem? (i := 11) rfl)
theorem wi_1124 : Cond.selects RX8 yX8_copy yX8_copy ∈ gw_T := in_gc_29 _ (List.mem_of_getElem? (i := 12) rfl)
theorem wi_1126 : Cond.methodLink RL 170 yX8_image ∈ gw_T := in_gc_29 _ (List.mem_of_getElem? (i := 13) rfl)
theorem wi_1127 : Cond.instanceMethod yX8_image ∈ gw_T := in_gc_29 _ (List.mem_of_getElem? (i := 14) rfl)
theorem wi_1128 : Cond.selects RX8 yX8_image yX8_image ∈ gw_T := in_gc_29 _ (List.mem_of_getElem? (i := 15) rfl)
theorem wi_1130 : Cond.methodLink RL 174 yX8_restore ∈ gw_T := in_gc_29 _ (List.mem_of_getElem? (i := 16) rfl)
theorem wi_1131 : Cond.instanceMethod yX8_restore ∈ gw_T := in_gc_29 _ (List.mem_of_getElem? (i := 17) rfl)
theorem wi_1132 : Cond.selects RX8 yX8_restore yX8_restore ∈ gw_T := in_gc_29 _ (List.mem_of_getElem? (i := 18) rfl)
theorem wi_1134 : Cond.methodLink RL 178 yX8_count ∈ gw_T := in_gc_29 _ (List.mem_of_getElem? (i := 19) rfl)
theorem wi_1135 : Cond.instanceMethod yX8_count ∈ gw_T := in_gc_30 _ (List.mem_of_getElem? (i := 0) rfl)
theorem wi_1136 : Cond.selects RX8 yX8_count yX8_count ∈ gw_T := in_gc_30 _ (List.mem_of_getElem? (i := 1) rfl)
theorem wi_1138 : Cond.classLink RL 10 RX9 ∈ gw_T := in_gc_30 _ (List.mem_of_getElem? (i := 2) rfl)
theorem wi_1139 : Cond.instantiable RX9 37 ∈ gw_T := in_gc_30 _ (List.mem_of_getElem? (i := 3) rfl)
theorem wi_1140 : Cond.methodLink RL 12 yX9_init ∈ gw_T := in_gc_30 _ (List.mem_of_getElem? (i := 4) rfl)
theorem wi_1141 : Cond.instanceMethod yX9_init ∈ gw_T := in_gc_30 _ (List.mem_of_getElem? (i := 5) rfl)
theorem wi_1143 : Cond.methodLink RX9 7 objectInit ∈ gw_T := in_gc_30 _ (List.mem_of_getElem? (i := 6) rfl)
theorem wi_1144 : Cond.methodLink RX9 61 yX9_plainIn ∈ gw_T := in_gc_30 _ (List.mem_of_getElem? (i := 7) rfl)
theorem wi_1145 : Cond.static yX9_plainIn ∈ gw_T := in_gc_30 _ (List.mem_of_getElem? (i := 8) rfl)
theorem wi_1147 : Cond.methodLink RX9 65 yX9_lampIn ∈ gw_T := in_gc_30 _ (List.mem_of_getElem? (i := 9) rfl)
theorem wi_1148 : Cond.static yX9_lampIn ∈ gw_T := in_gc_30 _ (List.mem_of_getElem? (i := 10) rfl)
theorem wi_1150 : Cond.fieldLink RX9 1 "RopeMoonModel" "thrown" "I" ∈ gw_T := in_gc_30 _ (List.mem_of_getElem? (i := 11) rfl)
theorem wi_1151 : Cond.fieldLink RX9 13 "RopeMoonModel" "all" "[I" ∈ gw_T := in_gc_30 _ (List.mem_of_getElem? (i := 12) rfl)
theorem wi_1152 : Cond.fieldLink RX9 17 "RopeMoonModel" "hasImage" "[Z" ∈ gw_T := in_gc_30 _ (List.mem_of_getElem? (i := 13) rfl)
theorem wi_1153 : Cond.fieldLink RX9 21 "RopeMoonModel" "tape" "[I" ∈ gw_T := in_gc_30 _ (List.mem_of_getElem? (i := 14) rfl)
theorem wi_1154 : Cond.fieldLink RX9 24 "RopeMoonModel" "fresh" "[I" ∈ gw_T := in_gc_30 _ (List.mem_of_getElem? (i := 15) rfl)
theorem wi_1155 : Cond.fieldLink RX9 68 "RopeMoonModel" "taped" "I" ∈ gw_T := in_gc_30 _ (List.mem_of_getElem? (i := 16) rfl)
theorem wi_1156 : Cond.fieldLink RX9 86 "RopeMoonModel" "at" "I" ∈ gw_T := in_gc_30 _ (List.mem_of_getElem? (i := 17) rfl)
theorem wi_1157 : Cond.fieldLink RX9 89 "RopeMoonModel" "behind" "I" ∈ gw_T := in_gc_30 _ (List.mem_of_getElem? (i := 18) rfl)
theorem wi_1158 : Cond.fieldLink RX9 71 "RopeMoonModel" "size" "I" ∈ gw_T := in_gc_30 _ (List.mem_of_getElem? (i := 19) rfl)
theorem wi_1159 : Cond.fieldLink RX9 96 "RopeMoonModel" "kind" "I" ∈ gw_T := in_gc_31 _ (List.mem_of_getElem? (i := 0) rfl)
theorem wi_1160 : Cond.fieldLink RX9 109 "RopeMoonModel" "number" "I" ∈ gw_T := in_gc_31 _ (List.mem_of_getElem? (i := 1) rfl)
theorem wi_1161 : Cond.fieldLink RX9 112 "RopeMoonModel" "wrong" "I" ∈ gw_T := in_gc_31 _ (List.mem_of_getElem? (i := 2) rfl)
theorem wi_1162 : Cond.fieldLink RX9 115 "RopeMoonModel" "wrongAt" "I" ∈ gw_T := in_gc_31 _ (List.mem_of_getElem? (i := 3) rfl)
theorem wi_1163 : Cond.fieldLink RX9 155 "RopeMoonModel" "faultKind" "I" ∈ gw_T := in_gc_31 _ (List.mem_of_getElem? (i := 4) rfl)
theorem wi_1164 : Cond.fieldLink RX9 27 "RopeMoonModel" "faultPlace" "I" ∈ gw_T := in_gc_31 _ (List.mem_of_getElem? (i := 5) rfl)
theorem wi_1165 : Cond.fieldLink RX9 30 "RopeMoonModel" "gotten" "[I" ∈ gw_T := in_gc_31 _ (List.mem_of_getElem? (i := 6) rfl)
theorem wi_1166 : Cond.fieldLink RX9 33 "RopeMoonModel" "kept" "[I" ∈ gw_T := in_gc_31 _ (List.mem_of_getElem? (i := 7) rfl)
theorem wi_1167 : Cond.fieldLink RX9 210 "RopeMoonModel" "why" "I" ∈ gw_T := in_gc_31 _ (List.mem_of_getElem? (i := 8) rfl)
theorem wi_1168 : Cond.fieldLink RX9 213 "RopeMoonModel" "reapedMany" "I" ∈ gw_T := in_gc_31 _ (List.mem_of_getElem? (i := 9) rfl)
theorem wi_1169 : Cond.fieldLink RX9 228 "RopeMoonModel" "x" "I" ∈ gw_T := in_gc_31 _ (List.mem_of_getElem? (i := 10) rfl)
theorem wi_1170 : Cond.fieldLink RX9 36 "RopeMoonModel" "moves" "[I" ∈ gw_T := in_gc_31 _ (List.mem_of_getElem? (i := 11) rfl)
theorem wi_1171 : Cond.fieldLink RX9 39 "RopeMoonModel" "bestMoves" "[I" ∈ gw_T := in_gc_31 _ (List.mem_of_getElem? (i := 12) rfl)
theorem wi_1172 : Cond.fieldLink RX9 42 "RopeMoonModel" "bestGotten" "[I" ∈ gw_T := in_gc_31 _ (List.mem_of_getElem? (i := 13) rfl)
theorem wi_1173 : Cond.fieldLink RX9 236 "RopeMoonModel" "aim" "I" ∈ gw_T := in_gc_31 _ (List.mem_of_getElem? (i := 14) rfl)
theorem wi_1174 : Cond.fieldLink RX9 242 "RopeMoonModel" "aimFarm" "I" ∈ gw_T := in_gc_31 _ (List.mem_of_getElem? (i := 15) rfl)
theorem wi_1175 : Cond.fieldLink RX9 251 "RopeMoonModel" "bestFirst" "I" ∈ gw_T := in_gc_31 _ (List.mem_of_getElem? (i := 16) rfl)
theorem wi_1176 : Cond.fieldLink RX9 254 "RopeMoonModel" "bestSecond" "I" ∈ gw_T := in_gc_31 _ (List.mem_of_getElem? (i := 17) rfl)
theorem wi_1177 : Cond.fieldLink RX9 245 "RopeMoonModel" "long1" "I" ∈ gw_T := in_gc_31 _ (List.mem_of_getElem? (i := 18) rfl)
theorem wi_1178 : Cond.fieldLink RX9 45 "RopeMoonModel" "crops" "[I" ∈ gw_T := in_gc_31 _ (List.mem_of_getElem? (i := 19) rfl)
theorem wi_1179 : Cond.fieldLink RX9 280 "RopeMoonModel" "cropMany" "I" ∈ gw_T := in_gc_32 _ (List.mem_of_getElem? (i := 0) rfl)
theorem wi_1180 : Cond.fieldLink RX9 48 "RopeMoonModel" "litFrom" "[I" ∈ gw_T := in_gc_32 _ (List.mem_of_getElem? (i := 1) rfl)
theorem wi_1181 : Cond.fieldLink RX9 303 "RopeMoonModel" "hungNow" "I" ∈ gw_T := in_gc_32 _ (List.mem_of_getElem? (i := 2) rfl)
theorem wi_1182 : Cond.fieldLink RX9 300 "RopeMoonModel" "hungAlways" "I" ∈ gw_T := in_gc_32 _ (List.mem_of_getElem? (i := 3) rfl)
theorem wi_1183 : Cond.fieldLink RX9 297 "RopeMoonModel" "explained" "I" ∈ gw_T := in_gc_32 _ (List.mem_of_getElem? (i := 4) rfl)
theorem wi_1184 : Cond.fieldLink RX9 51 "RopeMoonModel" "rowSort" "[I" ∈ gw_T := in_gc_32 _ (List.mem_of_getElem? (i := 5) rfl)
theorem wi_1185 : Cond.fieldLink RX9 54 "RopeMoonModel" "rowMany" "[I" ∈ gw_T := in_gc_32 _ (List.mem_of_getElem? (i := 6) rfl)
theorem wi_1186 : Cond.fieldLink RX9 57 "RopeMoonModel" "numbers" "[J" ∈ gw_T := in_gc_32 _ (List.mem_of_getElem? (i := 7) rfl)
theorem wi_1262 : Cond.methodLink RL 17 yX9_feed ∈ gw_T := in_gc_32 _ (List.mem_of_getElem? (i := 8) rfl)
theorem wi_1263 : Cond.instanceMethod yX9_feed ∈ gw_T := in_gc_32 _ (List.mem_of_getElem? (i := 9) rfl)
theorem wi_1264 : Cond.selects RX9 yX9_feed yX9_feed ∈ gw_T := in_gc_32 _ (List.mem_of_getElem? (i := 10) rfl)
theorem wi_1266 : Cond.methodLink RL 22 yX9_plain ∈ gw_T := in_gc_32 _ (List.mem_of_getElem? (i := 11) rfl)
theorem wi_1267 : Cond.instanceMethod yX9_plain ∈ gw_T := in_gc_32 _ (List.mem_of_getElem? (i := 12) rfl)
theorem wi_1268 : Cond.selects RX9 yX9_plain yX9_plain ∈ gw_T := in_gc_32 _ (List.mem_of_getElem? (i := 13) rfl)
theorem wi_1270 : Cond.methodLink RX9 128 yX9_within ∈ gw_T := in_gc_32 _ (List.mem_of_getElem? (i := 14) rfl)
theorem wi_1271 : Cond.static yX9_within ∈ gw_T := in_gc_32 _ (List.mem_of_getElem? (i := 15) rfl)
theorem wi_1273 : Cond.methodLink RX9 121 yX9_next ∈ gw_T := in_gc_32 _ (List.mem_of_getElem? (i := 16) rfl)
theorem wi_1275 : Cond.instanceMethod yX9_next ∈ gw_T := in_gc_32 _ (List.mem_of_getElem? (i := 17) rfl)
theorem wi_1277 : Cond.methodLink RX9 92 yX9_see ∈ gw_T := in_gc_32 _ (List.mem_of_getElem? (i := 18) rfl)
theorem wi_1279 : Cond.instanceMethod yX9_see ∈ gw_T := in_gc_32 _ (List.mem_of_getElem? (i := 19) rfl)
theorem wi_1281 : Cond.methodLink RX9 99 yX9_isSmall ∈ gw_T := in_gc_33 _ (List.mem_of_getElem? (i := 0) rfl)
theorem wi_1282 : Cond.static yX9_isSmall ∈ gw_T := in_gc_33 _ (List.mem_of_getElem? (i := 1) rfl)
theorem wi_1284 : Cond.methodLink RX9 103 yX9_keyAt ∈ gw_T := in_gc_33 _ (List.mem_of_getElem? (i := 2) rfl)
theorem wi_1286 : Cond.instanceMethod yX9_keyAt ∈ gw_T := in_gc_33 _ (List.mem_of_getElem? (i := 3) rfl)
theorem wi_1289 : Cond.methodLink RX9 76 yJ0_length_8abf5 ∈ gw_T := in_gc_33 _ (List.mem_of_getElem? (i := 4) rfl)
theorem wi_1290 : Cond.methodLink RX9 82 yJ0_charAt_5068e ∈ gw_T := in_gc_33 _ (List.mem_of_getElem? (i := 5) rfl)
theorem wi_1291 : Cond.methodLink RX9 106 yX9_isDigit ∈ gw_T := in_gc_33 _ (List.mem_of_getElem? (i := 6) rfl)
theorem wi_1292 : Cond.static yX9_isDigit ∈ gw_T := in_gc_33 _ (List.mem_of_getElem? (i := 7) rfl)
theorem wi_1294 : Cond.methodLink RX9 152 yX9_readLine ∈ gw_T := in_gc_33 _ (List.mem_of_getElem? (i := 8) rfl)
theorem wi_1296 : Cond.instanceMethod yX9_readLine ∈ gw_T := in_gc_33 _ (List.mem_of_getElem? (i := 9) rfl)
theorem wi_1298 : Cond.methodLink RX9 118 yX9_is ∈ gw_T := in_gc_33 _ (List.mem_of_getElem? (i := 10) rfl)
theorem wi_1300 : Cond.instanceMethod yX9_is ∈ gw_T := in_gc_33 _ (List.mem_of_getElem? (i := 11) rfl)
theorem wi_1302 : Cond.methodLink RX9 143 yX9_readStrip ∈ gw_T := in_gc_33 _ (List.mem_of_getElem? (i := 12) rfl)
theorem wi_1304 : Cond.instanceMethod yX9_readStrip ∈ gw_T := in_gc_33 _ (List.mem_of_getElem? (i := 13) rfl)
theorem wi_1306 : Cond.methodLink RX9 124 yX9_fails ∈ gw_T := in_gc_33 _ (List.mem_of_getElem? (i := 14) rfl)
theorem wi_1308 : Cond.instanceMethod yX9_fails ∈ gw_T := in_gc_33 _ (List.mem_of_getElem? (i := 15) rfl)
theorem wi_1310 : Cond.methodLink RX9 135 yX9_takes ∈ gw_T := in_gc_33 _ (List.mem_of_getElem? (i := 16) rfl)
theorem wi_1312 : Cond.instanceMethod yX9_takes ∈ gw_T := in_gc_33 _ (List.mem_of_getElem? (i := 17) rfl)
theorem wi_1314 : Cond.methodLink RX9 139 yX9_takesIf ∈ gw_T := in_gc_33 _ (List.mem_of_getElem? (i := 18) rfl)
theorem wi_1316 : Cond.instanceMethod yX9_takesIf ∈ gw_T := in_gc_33 _ (List.mem_of_getElem? (i := 19) rfl)
theorem wi_1318 : Cond.methodLink RX9 132 yX9_eats ∈ gw_T := in_gc_34 _ (List.mem_of_getElem? (i := 0) rfl)
theorem wi_1320 : Cond.instanceMethod yX9_eats ∈ gw_T := in_gc_34 _ (List.mem_of_getElem? (i := 1) rfl)
theorem wi_1322 : Cond.methodLink RX9 146 yX9_readLamp ∈ gw_T := in_gc_34 _ (List.mem_of_getElem? (i := 2) rfl)
theorem wi_1324 : Cond.instanceMethod yX9_readLamp ∈ gw_T := in_gc_34 _ (List.mem_of_getElem? (i := 3) rfl)
theorem wi_1326 : Cond.methodLink RX9 149 yX9_readBid ∈ gw_T := in_gc_34 _ (List.mem_of_getElem? (i := 4) rfl)
theorem wi_1328 : Cond.instanceMethod yX9_readBid ∈ gw_T := in_gc_34 _ (List.mem_of_getElem? (i := 5) rfl)
theorem wi_1330 : Cond.methodLink RL 26 yX9_fault ∈ gw_T := in_gc_34 _ (List.mem_of_getElem? (i := 6) rfl)
theorem wi_1331 : Cond.instanceMethod yX9_fault ∈ gw_T := in_gc_34 _ (List.mem_of_getElem? (i := 7) rfl)
theorem wi_1332 : Cond.selects RX9 yX9_fault yX9_fault ∈ gw_T := in_gc_34 _ (List.mem_of_getElem? (i := 8) rfl)
theorem wi_1334 : Cond.methodLink RL 31 yX9_strip ∈ gw_T := in_gc_34 _ (List.mem_of_getElem? (i := 9) rfl)
theorem wi_1335 : Cond.instanceMethod yX9_strip ∈ gw_T := in_gc_34 _ (List.mem_of_getElem? (i := 10) rfl)
theorem wi_1336 : Cond.selects RX9 yX9_strip yX9_strip ∈ gw_T := in_gc_34 _ (List.mem_of_getElem? (i := 11) rfl)
theorem wi_1338 : Cond.methodLink RX9 172 yX9_isStrip ∈ gw_T := in_gc_34 _ (List.mem_of_getElem? (i := 12) rfl)
theorem wi_1340 : Cond.instanceMethod yX9_isStrip ∈ gw_T := in_gc_34 _ (List.mem_of_getElem? (i := 13) rfl)
theorem wi_1342 : Cond.constantLong RX9 175 (5) ∈ gw_T := in_gc_34 _ (List.mem_of_getElem? (i := 14) rfl)
theorem wi_1343 : Cond.methodLink RX9 177 yX9_lightOf ∈ gw_T := in_gc_34 _ (List.mem_of_getElem? (i := 15) rfl)
theorem wi_1345 : Cond.instanceMethod yX9_lightOf ∈ gw_T := in_gc_34 _ (List.mem_of_getElem? (i := 16) rfl)
theorem wi_1347 : Cond.methodLink RX9 168 yX9_lightBy ∈ gw_T := in_gc_34 _ (List.mem_of_getElem? (i := 17) rfl)
theorem wi_1349 : Cond.instanceMethod yX9_lightBy ∈ gw_T := in_gc_34 _ (List.mem_of_getElem? (i := 18) rfl)
theorem wi_1351 : Cond.methodLink RX9 161 yX9_isShaded ∈ gw_T := in_gc_34 _ (List.mem_of_getElem? (i := 19) rfl)
theorem wi_1353 : Cond.instanceMethod yX9_isShaded ∈ gw_T := in_gc_35 _ (List.mem_of_getElem? (i := 0) rfl)
theorem wi_1355 : Cond.methodLink RX9 158 yX9_off ∈ gw_T := in_gc_35 _ (List.mem_of_getElem? (i := 1) rfl)
theorem wi_1356 : Cond.static yX9_off ∈ gw_T := in_gc_35 _ (List.mem_of_getElem? (i := 2) rfl)
theorem wi_1358 : Cond.methodLink RX9 165 yX9_nearness ∈ gw_T := in_gc_35 _ (List.mem_of_getElem? (i := 3) rfl)
theorem wi_1360 : Cond.instanceMethod yX9_nearness ∈ gw_T := in_gc_35 _ (List.mem_of_getElem? (i := 4) rfl)
theorem wi_1362 : Cond.methodLink RL 35 yX9_farm ∈ gw_T := in_gc_35 _ (List.mem_of_getElem? (i := 5) rfl)
theorem wi_1363 : Cond.instanceMethod yX9_farm ∈ gw_T := in_gc_35 _ (List.mem_of_getElem? (i := 6) rfl)
theorem wi_1364 : Cond.selects RX9 yX9_farm yX9_farm ∈ gw_T := in_gc_35 _ (List.mem_of_getElem? (i := 7) rfl)
theorem wi_1366 : Cond.constantLong RX9 180 (3) ∈ gw_T := in_gc_35 _ (List.mem_of_getElem? (i := 8) rfl)
theorem wi_1367 : Cond.methodLink RX9 182 yX9_ofFarm ∈ gw_T := in_gc_35 _ (List.mem_of_getElem? (i := 9) rfl)
theorem wi_1369 : Cond.instanceMethod yX9_ofFarm ∈ gw_T := in_gc_35 _ (List.mem_of_getElem? (i := 10) rfl)
theorem wi_1371 : Cond.methodLink RX9 185 yX9_stripsOf ∈ gw_T := in_gc_35 _ (List.mem_of_getElem? (i := 11) rfl)
theorem wi_1373 : Cond.instanceMethod yX9_stripsOf ∈ gw_T := in_gc_35 _ (List.mem_of_getElem? (i := 12) rfl)
theorem wi_1375 : Cond.methodLink RL 39 yX9_light ∈ gw_T := in_gc_35 _ (List.mem_of_getElem? (i := 13) rfl)
theorem wi_1376 : Cond.instanceMethod yX9_light ∈ gw_T := in_gc_35 _ (List.mem_of_getElem? (i := 14) rfl)
theorem wi_1377 : Cond.selects RX9 yX9_light yX9_light ∈ gw_T := in_gc_35 _ (List.mem_of_getElem? (i := 15) rfl)
theorem wi_1379 : Cond.methodLink RL 43 yX9_lit ∈ gw_T := in_gc_35 _ (List.mem_of_getElem? (i := 16) rfl)
theorem wi_1380 : Cond.instanceMethod yX9_lit ∈ gw_T := in_gc_35 _ (List.mem_of_getElem? (i := 17) rfl)
theorem wi_1381 : Cond.selects RX9 yX9_lit yX9_lit ∈ gw_T := in_gc_35 _ (List.mem_of_getElem? (i := 18) rfl)
theorem wi_1383 : Cond.methodLink RX9 188 yX9_litBy ∈ gw_T := in_gc_35 _ (List.mem_of_getElem? (i := 19) rfl)
theorem wi_1385 : Cond.instanceMethod yX9_litBy ∈ gw_T := in_gc_36 _ (List.mem_of_getElem? (i := 0) rfl)
theorem wi_1387 : Cond.methodLink RL 47 yX9_shaded ∈ gw_T := in_gc_36 _ (List.mem_of_getElem? (i := 1) rfl)
theorem wi_1388 : Cond.instanceMethod yX9_shaded ∈ gw_T := in_gc_36 _ (List.mem_of_getElem? (i := 2) rfl)
theorem wi_1389 : Cond.selects RX9 yX9_shaded yX9_shaded ∈ gw_T := in_gc_36 _ (List.mem_of_getElem? (i := 3) rfl)
theorem wi_1391 : Cond.methodLink RL 51 yX9_high ∈ gw_T := in_gc_36 _ (List.mem_of_getElem? (i := 4) rfl)
theorem wi_1392 : Cond.instanceMethod yX9_high ∈ gw_T := in_gc_36 _ (List.mem_of_getElem? (i := 5) rfl)
theorem wi_1393 : Cond.selects RX9 yX9_high yX9_high ∈ gw_T := in_gc_36 _ (List.mem_of_getElem? (i := 6) rfl)
theorem wi_1395 : Cond.methodLink RL 56 yX9_highFor ∈ gw_T := in_gc_36 _ (List.mem_of_getElem? (i := 7) rfl)
theorem wi_1396 : Cond.instanceMethod yX9_highFor ∈ gw_T := in_gc_36 _ (List.mem_of_getElem? (i := 8) rfl)
theorem wi_1397 : Cond.selects RX9 yX9_highFor yX9_highFor ∈ gw_T := in_gc_36 _ (List.mem_of_getElem? (i := 9) rfl)
theorem wi_1399 : Cond.methodLink RX9 191 yX9_isSet ∈ gw_T := in_gc_36 _ (List.mem_of_getElem? (i := 10) rfl)
theorem wi_1401 : Cond.instanceMethod yX9_isSet ∈ gw_T := in_gc_36 _ (List.mem_of_getElem? (i := 11) rfl)
theorem wi_1403 : Cond.methodLink RL 60 yX9_height ∈ gw_T := in_gc_36 _ (List.mem_of_getElem? (i := 12) rfl)
theorem wi_1404 : Cond.instanceMethod yX9_height ∈ gw_T := in_gc_36 _ (List.mem_of_getElem? (i := 13) rfl)
theorem wi_1405 : Cond.selects RX9 yX9_height yX9_height ∈ gw_T := in_gc_36 _ (List.mem_of_getElem? (i := 14) rfl)
theorem wi_1407 : Cond.constantLong RX9 194 (30) ∈ gw_T := in_gc_36 _ (List.mem_of_getElem? (i := 15) rfl)
theorem wi_1408 : Cond.methodLink RL 64 yX9_fell ∈ gw_T := in_gc_36 _ (List.mem_of_getElem? (i := 16) rfl)
theorem wi_1409 : Cond.instanceMethod yX9_fell ∈ gw_T := in_gc_36 _ (List.mem_of_getElem? (i := 17) rfl)
theorem wi_1410 : Cond.selects RX9 yX9_fell yX9_fell ∈ gw_T := in_gc_36 _ (List.mem_of_getElem? (i := 18) rfl)
theorem wi_1412 : Cond.methodLink RL 68 yX9_minute ∈ gw_T := in_gc_36 _ (List.mem_of_getElem? (i := 19) rfl)
theorem wi_1413 : Cond.instanceMethod yX9_minute ∈ gw_T := in_gc_37 _ (List.mem_of_getElem? (i := 0) rfl)
theorem wi_1414 : Cond.selects RX9 yX9_minute yX9_minute ∈ gw_T := in_gc_37 _ (List.mem_of_getElem? (i := 1) rfl)
theorem wi_1416 : Cond.methodLink RX9 202 yX9_refuses ∈ gw_T := in_gc_37 _ (List.mem_of_getElem? (i := 2) rfl)
theorem wi_1418 : Cond.instanceMethod yX9_refuses ∈ gw_T := in_gc_37 _ (List.mem_of_getElem? (i := 3) rfl)
theorem wi_1420 : Cond.constantLong RX9 196 (2) ∈ gw_T := in_gc_37 _ (List.mem_of_getElem? (i := 4) rfl)
theorem wi_1421 : Cond.methodLink RX9 198 yX9_then ∈ gw_T := in_gc_37 _ (List.mem_of_getElem? (i := 5) rfl)
theorem wi_1422 : Cond.static yX9_then ∈ gw_T := in_gc_37 _ (List.mem_of_getElem? (i := 6) rfl)
theorem wi_1424 : Cond.methodLink RX9 206 yX9_goes ∈ gw_T := in_gc_37 _ (List.mem_of_getElem? (i := 7) rfl)
theorem wi_1426 : Cond.instanceMethod yX9_goes ∈ gw_T := in_gc_37 _ (List.mem_of_getElem? (i := 8) rfl)
theorem wi_1428 : Cond.methodLink RL 72 yX9_judge ∈ gw_T := in_gc_37 _ (List.mem_of_getElem? (i := 9) rfl)
theorem wi_1429 : Cond.instanceMethod yX9_judge ∈ gw_T := in_gc_37 _ (List.mem_of_getElem? (i := 10) rfl)
theorem wi_1430 : Cond.selects RX9 yX9_judge yX9_judge ∈ gw_T := in_gc_37 _ (List.mem_of_getElem? (i := 11) rfl)
theorem wi_1432 : Cond.methodLink RX9 216 yX9_keeps ∈ gw_T := in_gc_37 _ (List.mem_of_getElem? (i := 12) rfl)
theorem wi_1434 : Cond.instanceMethod yX9_keeps ∈ gw_T := in_gc_37 _ (List.mem_of_getElem? (i := 13) rfl)
theorem wi_1436 : Cond.methodLink RX9 219 yX9_movesOf ∈ gw_T := in_gc_37 _ (List.mem_of_getElem? (i := 14) rfl)
theorem wi_1438 : Cond.instanceMethod yX9_movesOf ∈ gw_T := in_gc_37 _ (List.mem_of_getElem? (i := 15) rfl)
theorem wi_1440 : Cond.methodLink RX9 222 yX9_isAgain ∈ gw_T := in_gc_37 _ (List.mem_of_getElem? (i := 16) rfl)
theorem wi_1442 : Cond.instanceMethod yX9_isAgain ∈ gw_T := in_gc_37 _ (List.mem_of_getElem? (i := 17) rfl)
theorem wi_1444 : Cond.methodLink RL 76 yX9_perform ∈ gw_T := in_gc_37 _ (List.mem_of_getElem? (i := 18) rfl)
theorem wi_1445 : Cond.instanceMethod yX9_perform ∈ gw_T := in_gc_37 _ (List.mem_of_getElem? (i := 19) rfl)
theorem wi_1446 : Cond.selects RX9 yX9_perform yX9_perform ∈ gw_T := in_gc_38 _ (List.mem_of_getElem? (i := 0) rfl)
theorem wi_1448 : Cond.methodLink RL 80 yX9_fill ∈ gw_T := in_gc_38 _ (List.mem_of_getElem? (i := 1) rfl)
theorem wi_1449 : Cond.instanceMethod yX9_fill ∈ gw_T := in_gc_38 _ (List.mem_of_getElem? (i := 2) rfl)
theorem wi_1450 : Cond.selects RX9 yX9_fill yX9_fill ∈ gw_T := in_gc_38 _ (List.mem_of_getElem? (i := 3) rfl)
theorem wi_1452 : Cond.constantLong RX9 225 (99) ∈ gw_T := in_gc_38 _ (List.mem_of_getElem? (i := 4) rfl)
theorem wi_1453 : Cond.methodLink RL 84 yX9_night ∈ gw_T := in_gc_38 _ (List.mem_of_getElem? (i := 5) rfl)
theorem wi_1454 : Cond.instanceMethod yX9_night ∈ gw_T := in_gc_38 _ (List.mem_of_getElem? (i := 6) rfl)
theorem wi_1455 : Cond.selects RX9 yX9_night yX9_night ∈ gw_T := in_gc_38 _ (List.mem_of_getElem? (i := 7) rfl)
theorem wi_1457 : Cond.constantLong RX9 231 (60) ∈ gw_T := in_gc_38 _ (List.mem_of_getElem? (i := 8) rfl)
theorem wi_1458 : Cond.methodLink RX9 233 yX9_draw ∈ gw_T := in_gc_38 _ (List.mem_of_getElem? (i := 9) rfl)
theorem wi_1460 : Cond.instanceMethod yX9_draw ∈ gw_T := in_gc_38 _ (List.mem_of_getElem? (i := 10) rfl)
theorem wi_1462 : Cond.constant RX9 227 (1103515245) ∈ gw_T := in_gc_38 _ (List.mem_of_getElem? (i := 11) rfl)
theorem wi_1463 : Cond.methodLink RL 89 yX9_walk ∈ gw_T := in_gc_38 _ (List.mem_of_getElem? (i := 12) rfl)
theorem wi_1464 : Cond.instanceMethod yX9_walk ∈ gw_T := in_gc_38 _ (List.mem_of_getElem? (i := 13) rfl)
theorem wi_1465 : Cond.selects RX9 yX9_walk yX9_walk ∈ gw_T := in_gc_38 _ (List.mem_of_getElem? (i := 14) rfl)
theorem wi_1467 : Cond.methodLink RL 93 yX9_most ∈ gw_T := in_gc_38 _ (List.mem_of_getElem? (i := 15) rfl)
theorem wi_1468 : Cond.instanceMethod yX9_most ∈ gw_T := in_gc_38 _ (List.mem_of_getElem? (i := 16) rfl)
theorem wi_1469 : Cond.selects RX9 yX9_most yX9_most ∈ gw_T := in_gc_38 _ (List.mem_of_getElem? (i := 17) rfl)
theorem wi_1471 : Cond.methodLink RX9 272 yX9_told ∈ gw_T := in_gc_38 _ (List.mem_of_getElem? (i := 18) rfl)
theorem wi_1473 : Cond.instanceMethod yX9_told ∈ gw_T := in_gc_38 _ (List.mem_of_getElem? (i := 19) rfl)
theorem wi_1475 : Cond.constantLong RX9 263 (10) ∈ gw_T := in_gc_39 _ (List.mem_of_getElem? (i := 0) rfl)
theorem wi_1476 : Cond.constantLong RX9 265 (17) ∈ gw_T := in_gc_39 _ (List.mem_of_getElem? (i := 1) rfl)
theorem wi_1477 : Cond.constantLong RX9 267 (8) ∈ gw_T := in_gc_39 _ (List.mem_of_getElem? (i := 2) rfl)
theorem wi_1478 : Cond.methodLink RX9 269 yX9_laysBest ∈ gw_T := in_gc_39 _ (List.mem_of_getElem? (i := 3) rfl)
theorem wi_1480 : Cond.instanceMethod yX9_laysBest ∈ gw_T := in_gc_39 _ (List.mem_of_getElem? (i := 4) rfl)
theorem wi_1482 : Cond.methodLink RX9 260 yX9_minutesOf ∈ gw_T := in_gc_39 _ (List.mem_of_getElem? (i := 5) rfl)
theorem wi_1484 : Cond.instanceMethod yX9_minutesOf ∈ gw_T := in_gc_39 _ (List.mem_of_getElem? (i := 6) rfl)
theorem wi_1486 : Cond.methodLink RX9 257 yX9_seeks ∈ gw_T := in_gc_39 _ (List.mem_of_getElem? (i := 7) rfl)
theorem wi_1488 : Cond.instanceMethod yX9_seeks ∈ gw_T := in_gc_39 _ (List.mem_of_getElem? (i := 8) rfl)
theorem wi_1490 : Cond.methodLink RX9 248 yX9_firstWorth ∈ gw_T := in_gc_39 _ (List.mem_of_getElem? (i := 9) rfl)
theorem wi_1492 : Cond.instanceMethod yX9_firstWorth ∈ gw_T := in_gc_39 _ (List.mem_of_getElem? (i := 10) rfl)
theorem wi_1494 : Cond.methodLink RX9 239 yX9_total ∈ gw_T := in_gc_39 _ (List.mem_of_getElem? (i := 11) rfl)
theorem wi_1496 : Cond.instanceMethod yX9_total ∈ gw_T := in_gc_39 _ (List.mem_of_getElem? (i := 12) rfl)
theorem wi_1498 : Cond.methodLink RL 97 yX9_dearest ∈ gw_T := in_gc_39 _ (List.mem_of_getElem? (i := 13) rfl)
theorem wi_1499 : Cond.instanceMethod yX9_dearest ∈ gw_T := in_gc_39 _ (List.mem_of_getElem? (i := 14) rfl)
theorem wi_1500 : Cond.selects RX9 yX9_dearest yX9_dearest ∈ gw_T := in_gc_39 _ (List.mem_of_getElem? (i := 15) rfl)
theorem wi_1502 : Cond.methodLink RL 101 yX9_fairest ∈ gw_T := in_gc_39 _ (List.mem_of_getElem? (i := 16) rfl)
theorem wi_1503 : Cond.instanceMethod yX9_fairest ∈ gw_T := in_gc_39 _ (List.mem_of_getElem? (i := 17) rfl)
theorem wi_1504 : Cond.selects RX9 yX9_fairest yX9_fairest ∈ gw_T := in_gc_39 _ (List.mem_of_getElem? (i := 18) rfl)
theorem wi_1506 : Cond.methodLink RL 105 yX9_alone ∈ gw_T := in_gc_39 _ (List.mem_of_getElem? (i := 19) rfl)
theorem wi_1507 : Cond.instanceMethod yX9_alone ∈ gw_T := in_gc_40 _ (List.mem_of_getElem? (i := 0) rfl)
theorem wi_1508 : Cond.selects RX9 yX9_alone yX9_alone ∈ gw_T := in_gc_40 _ (List.mem_of_getElem? (i := 1) rfl)
theorem wi_1510 : Cond.methodLink RL 109 yX9_pays ∈ gw_T := in_gc_40 _ (List.mem_of_getElem? (i := 2) rfl)
theorem wi_1511 : Cond.instanceMethod yX9_pays ∈ gw_T := in_gc_40 _ (List.mem_of_getElem? (i := 3) rfl)
theorem wi_1512 : Cond.selects RX9 yX9_pays yX9_pays ∈ gw_T := in_gc_40 _ (List.mem_of_getElem? (i := 4) rfl)
theorem wi_1514 : Cond.methodLink RL 113 yX9_shifted ∈ gw_T := in_gc_40 _ (List.mem_of_getElem? (i := 5) rfl)
theorem wi_1515 : Cond.instanceMethod yX9_shifted ∈ gw_T := in_gc_40 _ (List.mem_of_getElem? (i := 6) rfl)
theorem wi_1516 : Cond.selects RX9 yX9_shifted yX9_shifted ∈ gw_T := in_gc_40 _ (List.mem_of_getElem? (i := 7) rfl)
theorem wi_1518 : Cond.methodLink RL 117 yX9_felled ∈ gw_T := in_gc_40 _ (List.mem_of_getElem? (i := 8) rfl)
theorem wi_1519 : Cond.instanceMethod yX9_felled ∈ gw_T := in_gc_40 _ (List.mem_of_getElem? (i := 9) rfl)
theorem wi_1520 : Cond.selects RX9 yX9_felled yX9_felled ∈ gw_T := in_gc_40 _ (List.mem_of_getElem? (i := 10) rfl)
theorem wi_1522 : Cond.constantLong RX9 276 (6) ∈ gw_T := in_gc_40 _ (List.mem_of_getElem? (i := 11) rfl)
theorem wi_1523 : Cond.methodLink RL 121 yX9_soonest ∈ gw_T := in_gc_40 _ (List.mem_of_getElem? (i := 12) rfl)
theorem wi_1524 : Cond.instanceMethod yX9_soonest ∈ gw_T := in_gc_40 _ (List.mem_of_getElem? (i := 13) rfl)
theorem wi_1525 : Cond.selects RX9 yX9_soonest yX9_soonest ∈ gw_T := in_gc_40 _ (List.mem_of_getElem? (i := 14) rfl)
theorem wi_1527 : Cond.constantLong RX9 278 (9999) ∈ gw_T := in_gc_40 _ (List.mem_of_getElem? (i := 15) rfl)
theorem wi_1528 : Cond.methodLink RL 126 yX9_dark ∈ gw_T := in_gc_40 _ (List.mem_of_getElem? (i := 16) rfl)
theorem wi_1529 : Cond.instanceMethod yX9_dark ∈ gw_T := in_gc_40 _ (List.mem_of_getElem? (i := 17) rfl)
theorem wi_1530 : Cond.selects RX9 yX9_dark yX9_dark ∈ gw_T := in_gc_40 _ (List.mem_of_getElem? (i := 18) rfl)
theorem wi_1532 : Cond.methodLink RL 130 yX9_ends ∈ gw_T := in_gc_40 _ (List.mem_of_getElem? (i := 19) rfl)
theorem wi_1533 : Cond.instanceMethod yX9_ends ∈ gw_T := in_gc_41 _ (List.mem_of_getElem? (i := 0) rfl)
theorem wi_1534 : Cond.selects RX9 yX9_ends yX9_ends ∈ gw_T := in_gc_41 _ (List.mem_of_getElem? (i := 1) rfl)
theorem wi_1536 : Cond.methodLink RX9 287 yX9_gathers ∈ gw_T := in_gc_41 _ (List.mem_of_getElem? (i := 2) rfl)
theorem wi_1538 : Cond.instanceMethod yX9_gathers ∈ gw_T := in_gc_41 _ (List.mem_of_getElem? (i := 3) rfl)
theorem wi_1540 : Cond.methodLink RX9 283 yX9_isMet ∈ gw_T := in_gc_41 _ (List.mem_of_getElem? (i := 4) rfl)
theorem wi_1542 : Cond.instanceMethod yX9_isMet ∈ gw_T := in_gc_41 _ (List.mem_of_getElem? (i := 5) rfl)
theorem wi_1544 : Cond.methodLink RL 134 yX9_halts ∈ gw_T := in_gc_41 _ (List.mem_of_getElem? (i := 6) rfl)
theorem wi_1545 : Cond.instanceMethod yX9_halts ∈ gw_T := in_gc_41 _ (List.mem_of_getElem? (i := 7) rfl)
theorem wi_1546 : Cond.selects RX9 yX9_halts yX9_halts ∈ gw_T := in_gc_41 _ (List.mem_of_getElem? (i := 8) rfl)
theorem wi_1548 : Cond.methodLink RX9 294 yX9_haltsFor ∈ gw_T := in_gc_41 _ (List.mem_of_getElem? (i := 9) rfl)
theorem wi_1550 : Cond.instanceMethod yX9_haltsFor ∈ gw_T := in_gc_41 _ (List.mem_of_getElem? (i := 10) rfl)
theorem wi_1552 : Cond.methodLink RX9 291 yX9_bitsOf ∈ gw_T := in_gc_41 _ (List.mem_of_getElem? (i := 11) rfl)
theorem wi_1553 : Cond.static yX9_bitsOf ∈ gw_T := in_gc_41 _ (List.mem_of_getElem? (i := 12) rfl)
theorem wi_1555 : Cond.methodLink RL 138 yX9_tour ∈ gw_T := in_gc_41 _ (List.mem_of_getElem? (i := 13) rfl)
theorem wi_1556 : Cond.instanceMethod yX9_tour ∈ gw_T := in_gc_41 _ (List.mem_of_getElem? (i := 14) rfl)
theorem wi_1557 : Cond.selects RX9 yX9_tour yX9_tour ∈ gw_T := in_gc_41 _ (List.mem_of_getElem? (i := 15) rfl)
theorem wi_1559 : Cond.methodLink RL 142 yX9_stubble ∈ gw_T := in_gc_41 _ (List.mem_of_getElem? (i := 16) rfl)
theorem wi_1560 : Cond.instanceMethod yX9_stubble ∈ gw_T := in_gc_41 _ (List.mem_of_getElem? (i := 17) rfl)
theorem wi_1561 : Cond.selects RX9 yX9_stubble yX9_stubble ∈ gw_T := in_gc_41 _ (List.mem_of_getElem? (i := 18) rfl)
theorem wi_1563 : Cond.methodLink RX9 310 yX9_laysStubble ∈ gw_T := in_gc_41 _ (List.mem_of_getElem? (i := 19) rfl)
theorem wi_1565 : Cond.instanceMethod yX9_laysStubble ∈ gw_T := in_gc_42 _ (List.mem_of_getElem? (i := 0) rfl)
theorem wi_1567 : Cond.methodLink RX9 306 yX9_explains ∈ gw_T := in_gc_42 _ (List.mem_of_getElem? (i := 1) rfl)
theorem wi_1569 : Cond.instanceMethod yX9_explains ∈ gw_T := in_gc_42 _ (List.mem_of_getElem? (i := 2) rfl)
theorem wi_1571 : Cond.methodLink RL 146 yX9_sure ∈ gw_T := in_gc_42 _ (List.mem_of_getElem? (i := 3) rfl)
theorem wi_1572 : Cond.instanceMethod yX9_sure ∈ gw_T := in_gc_42 _ (List.mem_of_getElem? (i := 4) rfl)
theorem wi_1573 : Cond.selects RX9 yX9_sure yX9_sure ∈ gw_T := in_gc_42 _ (List.mem_of_getElem? (i := 5) rfl)
theorem wi_1575 : Cond.methodLink RL 150 yX9_meets ∈ gw_T := in_gc_42 _ (List.mem_of_getElem? (i := 6) rfl)
theorem wi_1576 : Cond.instanceMethod yX9_meets ∈ gw_T := in_gc_42 _ (List.mem_of_getElem? (i := 7) rfl)
theorem wi_1577 : Cond.selects RX9 yX9_meets yX9_meets ∈ gw_T := in_gc_42 _ (List.mem_of_getElem? (i := 8) rfl)
theorem wi_1579 : Cond.methodLink RX9 313 yX9_canWalk ∈ gw_T := in_gc_42 _ (List.mem_of_getElem? (i := 9) rfl)
theorem wi_1581 : Cond.instanceMethod yX9_canWalk ∈ gw_T := in_gc_42 _ (List.mem_of_getElem? (i := 10) rfl)
theorem wi_1583 : Cond.methodLink RX9 316 yX9_isOther ∈ gw_T := in_gc_42 _ (List.mem_of_getElem? (i := 11) rfl)
theorem wi_1585 : Cond.instanceMethod yX9_isOther ∈ gw_T := in_gc_42 _ (List.mem_of_getElem? (i := 12) rfl)
theorem wi_1587 : Cond.methodLink RL 154 yX9_delay ∈ gw_T := in_gc_42 _ (List.mem_of_getElem? (i := 13) rfl)
theorem wi_1588 : Cond.instanceMethod yX9_delay ∈ gw_T := in_gc_42 _ (List.mem_of_getElem? (i := 14) rfl)
theorem wi_1589 : Cond.selects RX9 yX9_delay yX9_delay ∈ gw_T := in_gc_42 _ (List.mem_of_getElem? (i := 15) rfl)
theorem wi_1591 : Cond.methodLink RX9 320 yX9_meetBy ∈ gw_T := in_gc_42 _ (List.mem_of_getElem? (i := 16) rfl)
theorem wi_1593 : Cond.instanceMethod yX9_meetBy ∈ gw_T := in_gc_42 _ (List.mem_of_getElem? (i := 17) rfl)
theorem wi_1595 : Cond.methodLink RL 158 yX9_numbers ∈ gw_T := in_gc_42 _ (List.mem_of_getElem? (i := 18) rfl)
theorem wi_1596 : Cond.instanceMethod yX9_numbers ∈ gw_T := in_gc_42 _ (List.mem_of_getElem? (i := 19) rfl)
theorem wi_1597 : Cond.selects RX9 yX9_numbers yX9_numbers ∈ gw_T := in_gc_43 _ (List.mem_of_getElem? (i := 0) rfl)
theorem wi_1599 : Cond.constantLong RX9 323 (40) ∈ gw_T := in_gc_43 _ (List.mem_of_getElem? (i := 1) rfl)
theorem wi_1600 : Cond.methodLink RL 165 yX9_write ∈ gw_T := in_gc_43 _ (List.mem_of_getElem? (i := 2) rfl)
theorem wi_1601 : Cond.instanceMethod yX9_write ∈ gw_T := in_gc_43 _ (List.mem_of_getElem? (i := 3) rfl)
theorem wi_1602 : Cond.selects RX9 yX9_write yX9_write ∈ gw_T := in_gc_43 _ (List.mem_of_getElem? (i := 4) rfl)
theorem wi_1604 : Cond.constantLong RX9 325 (-2) ∈ gw_T := in_gc_43 _ (List.mem_of_getElem? (i := 5) rfl)
theorem wi_1605 : Cond.constantLong RX9 327 (-6) ∈ gw_T := in_gc_43 _ (List.mem_of_getElem? (i := 6) rfl)
theorem wi_1606 : Cond.constantLong RX9 329 (-7) ∈ gw_T := in_gc_43 _ (List.mem_of_getElem? (i := 7) rfl)
theorem wi_1607 : Cond.methodLink RX9 331 yX9_cut ∈ gw_T := in_gc_43 _ (List.mem_of_getElem? (i := 8) rfl)
theorem wi_1608 : Cond.static yX9_cut ∈ gw_T := in_gc_43 _ (List.mem_of_getElem? (i := 9) rfl)
theorem wi_1610 : Cond.methodLink RL 169 yX9_copy ∈ gw_T := in_gc_43 _ (List.mem_of_getElem? (i := 10) rfl)
theorem wi_1611 : Cond.instanceMethod yX9_copy ∈ gw_T := in_gc_43 _ (List.mem_of_getElem? (i := 11) rfl)
theorem wi_1612 : Cond.selects RX9 yX9_copy yX9_copy ∈ gw_T := in_gc_43 _ (List.mem_of_getElem? (i := 12) rfl)
theorem wi_1614 : Cond.methodLink RL 173 yX9_image ∈ gw_T := in_gc_43 _ (List.mem_of_getElem? (i := 13) rfl)
theorem wi_1615 : Cond.instanceMethod yX9_image ∈ gw_T := in_gc_43 _ (List.mem_of_getElem? (i := 14) rfl)
theorem wi_1616 : Cond.selects RX9 yX9_image yX9_image ∈ gw_T := in_gc_43 _ (List.mem_of_getElem? (i := 15) rfl)
theorem wi_1618 : Cond.methodLink RL 177 yX9_restore ∈ gw_T := in_gc_43 _ (List.mem_of_getElem? (i := 16) rfl)
theorem wi_1619 : Cond.instanceMethod yX9_restore ∈ gw_T := in_gc_43 _ (List.mem_of_getElem? (i := 17) rfl)
theorem wi_1620 : Cond.selects RX9 yX9_restore yX9_restore ∈ gw_T := in_gc_43 _ (List.mem_of_getElem? (i := 18) rfl)
theorem wi_1622 : Cond.methodLink RL 181 yX9_count ∈ gw_T := in_gc_43 _ (List.mem_of_getElem? (i := 19) rfl)
theorem wi_1623 : Cond.instanceMethod yX9_count ∈ gw_T := in_gc_44 _ (List.mem_of_getElem? (i := 0) rfl)
theorem wi_1624 : Cond.selects RX9 yX9_count yX9_count ∈ gw_T := in_gc_44 _ (List.mem_of_getElem? (i := 1) rfl)
theorem wi_1626 : Cond.methodLink RX9 335 yX9_sumOf ∈ gw_T := in_gc_44 _ (List.mem_of_getElem? (i := 2) rfl)
theorem wi_1628 : Cond.instanceMethod yX9_sumOf ∈ gw_T := in_gc_44 _ (List.mem_of_getElem? (i := 3) rfl)
theorem wi_1630 : Cond.constantLong RL 159 (4294967295) ∈ gw_T := in_gc_44 _ (List.mem_of_getElem? (i := 4) rfl)
theorem wi_1631 : Cond.fieldLink "java/lang/String" 9 "java/lang/String" "value" "[B" ∈ gw_T := in_gc_44 _ (List.mem_of_getElem? (i := 5) rfl)
theorem wi_1632 : Cond.fieldLink "java/lang/String" 15 "java/lang/String" "coder" "B" ∈ gw_T := in_gc_44 _ (List.mem_of_getElem? (i := 6) rfl)
theorem wi_143 : Cond.code yX8_init cX8_init 2 none ∈ gw_T := in_gc_45 _ (List.mem_of_getElem? (i := 0) rfl)
theorem wi_146 : Cond.code objectInit ⟨#[0xb1]⟩ 1 none ∈ gw_T := in_gc_45 _ (List.mem_of_getElem? (i := 1) rfl)
theorem wi_151 : Cond.code yX6_init cX6_init 1 none ∈ gw_T := in_gc_45 _ (List.mem_of_getElem? (i := 2) rfl)
theorem wi_157 : Cond.code yX3_init cX3_init 1 none ∈ gw_T := in_gc_45 _ (List.mem_of_getElem? (i := 3) rfl)
theorem wi_162 : Cond.code yX3_empty cX3_empty 1 none ∈ gw_T := in_gc_45 _ (List.mem_of_getElem? (i := 4) rfl)
theorem wi_165 : Cond.code yJ7_fill_53178 cJ7_fill_53178 4 none ∈ gw_T := in_gc_45 _ (List.mem_of_getElem? (i := 5) rfl)
theorem wi_292 : Cond.code yX7_init cX7_init 1 none ∈ gw_T := in_gc_45 _ (List.mem_of_getElem? (i := 6) rfl)
theorem wi_342 : Cond.code yX2_init cX2_init 1 none ∈ gw_T := in_gc_45 _ (List.mem_of_getElem? (i := 7) rfl)
theorem wi_390 : Cond.code yX5_init cX5_init 1 none ∈ gw_T := in_gc_45 _ (List.mem_of_getElem? (i := 8) rfl)
theorem wi_413 : Cond.code yX1_init cX1_init 1 none ∈ gw_T := in_gc_45 _ (List.mem_of_getElem? (i := 9) rfl)
theorem wi_437 : Cond.code yX0_init cX0_init 1 none ∈ gw_T := in_gc_45 _ (List.mem_of_getElem? (i := 10) rfl)
theorem wi_449 : Cond.code yX4_init cX4_init 1 none ∈ gw_T := in_gc_45 _ (List.mem_of_getElem? (i := 11) rfl)
theorem wi_510 : Cond.code yX8_feed cX8_feed 6 (some .int) ∈ gw_T := in_gc_46 _ (List.mem_of_getElem? (i := 0) rfl)
theorem wi_514 : Cond.code yX8_tapeInt cX8_tapeInt 3 none ∈ gw_T := in_gc_46 _ (List.mem_of_getElem? (i := 1) rfl)
theorem wi_518 : Cond.code yX8_plain cX8_plain 3 (some .int) ∈ gw_T := in_gc_46 _ (List.mem_of_getElem? (i := 2) rfl)
theorem wi_522 : Cond.code yX6_readText cX6_readText 4 (some .int) ∈ gw_T := in_gc_46 _ (List.mem_of_getElem? (i := 3) rfl)
theorem wi_525 : Cond.code Lib.Math.min.name Lib.Math.min.code 2 (some .int) ∈ gw_T := in_gc_46 _ (List.mem_of_getElem? (i := 4) rfl)
theorem wi_528 : Cond.code Lib.Math.max.name Lib.Math.max.code 2 (some .int) ∈ gw_T := in_gc_46 _ (List.mem_of_getElem? (i := 5) rfl)
theorem wi_536 : Cond.code yX6_advance cX6_advance 1 none ∈ gw_T := in_gc_46 _ (List.mem_of_getElem? (i := 6) rfl)
theorem wi_540 : Cond.code yX6_endOf cX6_endOf 4 (some .int) ∈ gw_T := in_gc_46 _ (List.mem_of_getElem? (i := 7) rfl)
theorem wi_544 : Cond.code yX6_kindAt cX6_kindAt 3 (some .int) ∈ gw_T := in_gc_46 _ (List.mem_of_getElem? (i := 8) rfl)
theorem wi_548 : Cond.code yX6_readValue cX6_readValue 3 none ∈ gw_T := in_gc_46 _ (List.mem_of_getElem? (i := 9) rfl)
theorem wi_552 : Cond.code yX6_readLine cX6_readLine 1 none ∈ gw_T := in_gc_46 _ (List.mem_of_getElem? (i := 10) rfl)
theorem wi_557 : Cond.code yX6_isWord cX6_isWord 3 (some .boolean) ∈ gw_T := in_gc_46 _ (List.mem_of_getElem? (i := 11) rfl)
theorem wi_561 : Cond.code yJ0_length_8abf5 cJ0_length_8abf5 1 (some .int) ∈ gw_T := in_gc_47 _ (List.mem_of_getElem? (i := 0) rfl)
theorem wi_565 : Cond.code yJ0_coder_7d493 cJ0_coder_7d493 1 (some .byte) ∈ gw_T := in_gc_47 _ (List.mem_of_getElem? (i := 1) rfl)
theorem wi_571 : Cond.code yJ0_charAt_5068e cJ0_charAt_5068e 2 (some .char) ∈ gw_T := in_gc_47 _ (List.mem_of_getElem? (i := 2) rfl)
theorem wi_575 : Cond.code yJ0_isLatin1_aae02 cJ0_isLatin1_aae02 1 (some .boolean) ∈ gw_T := in_gc_47 _ (List.mem_of_getElem? (i := 3) rfl)
theorem wi_578 : Cond.code yJ1_charAt_3b067 cJ1_charAt_3b067 2 (some .char) ∈ gw_T := in_gc_47 _ (List.mem_of_getElem? (i := 4) rfl)
theorem wi_581 : Cond.code yJ0_checkIndex_df160 cJ0_checkIndex_df160 2 none ∈ gw_T := in_gc_47 _ (List.mem_of_getElem? (i := 5) rfl)
theorem wi_586 : Cond.code yJ3_checkIndex_8e157 cJ3_checkIndex_8e157 3 (some .int) ∈ gw_T := in_gc_47 _ (List.mem_of_getElem? (i := 6) rfl)
theorem wi_609 : Cond.code yX6_readStrip cX6_readStrip 5 none ∈ gw_T := in_gc_47 _ (List.mem_of_getElem? (i := 7) rfl)
theorem wi_613 : Cond.code yX6_refuse cX6_refuse 2 none ∈ gw_T := in_gc_47 _ (List.mem_of_getElem? (i := 8) rfl)
theorem wi_617 : Cond.code yX6_takeNumber cX6_takeNumber 4 (some .int) ∈ gw_T := in_gc_47 _ (List.mem_of_getElem? (i := 9) rfl)
theorem wi_622 : Cond.code yX6_takeWord cX6_takeWord 2 (some .boolean) ∈ gw_T := in_gc_47 _ (List.mem_of_getElem? (i := 10) rfl)
theorem wi_628 : Cond.code yX3_addStrip cX3_addStrip 5 none ∈ gw_T := in_gc_47 _ (List.mem_of_getElem? (i := 11) rfl)
theorem wi_633 : Cond.code yX6_readLamp cX6_readLamp 1 none ∈ gw_T := in_gc_48 _ (List.mem_of_getElem? (i := 0) rfl)
theorem wi_643 : Cond.code yX6_readBid cX6_readBid 3 none ∈ gw_T := in_gc_48 _ (List.mem_of_getElem? (i := 1) rfl)
theorem wi_646 : Cond.code yX8_isFarm cX8_isFarm 1 (some .boolean) ∈ gw_T := in_gc_48 _ (List.mem_of_getElem? (i := 2) rfl)
theorem wi_652 : Cond.code yX6_endLine cX6_endLine 1 none ∈ gw_T := in_gc_48 _ (List.mem_of_getElem? (i := 3) rfl)
theorem wi_656 : Cond.code yX3_become cX3_become 2 none ∈ gw_T := in_gc_48 _ (List.mem_of_getElem? (i := 4) rfl)
theorem wi_661 : Cond.code yX8_fault cX8_fault 2 (some .int) ∈ gw_T := in_gc_48 _ (List.mem_of_getElem? (i := 5) rfl)
theorem wi_665 : Cond.code yX8_strip cX8_strip 3 (some .int) ∈ gw_T := in_gc_48 _ (List.mem_of_getElem? (i := 6) rfl)
theorem wi_669 : Cond.code yX3_hasStrip cX3_hasStrip 2 (some .boolean) ∈ gw_T := in_gc_48 _ (List.mem_of_getElem? (i := 7) rfl)
theorem wi_673 : Cond.code yX3_lightOf cX3_lightOf 4 (some .int) ∈ gw_T := in_gc_48 _ (List.mem_of_getElem? (i := 8) rfl)
theorem wi_677 : Cond.code yX3_unshadedLight cX3_unshadedLight 3 (some .int) ∈ gw_T := in_gc_48 _ (List.mem_of_getElem? (i := 9) rfl)
theorem wi_680 : Cond.code Lib.Math.abs.name Lib.Math.abs.code 1 (some .int) ∈ gw_T := in_gc_48 _ (List.mem_of_getElem? (i := 10) rfl)
theorem wi_685 : Cond.code yX3_isShaded cX3_isShaded 6 (some .boolean) ∈ gw_T := in_gc_48 _ (List.mem_of_getElem? (i := 11) rfl)
theorem wi_690 : Cond.code yX8_farm cX8_farm 3 (some .int) ∈ gw_T := in_gc_49 _ (List.mem_of_getElem? (i := 0) rfl)
theorem wi_695 : Cond.code yX3_sumOfFarm cX3_sumOfFarm 5 (some .int) ∈ gw_T := in_gc_49 _ (List.mem_of_getElem? (i := 1) rfl)
theorem wi_699 : Cond.code yX3_stripsOfFarm cX3_stripsOfFarm 4 (some .int) ∈ gw_T := in_gc_49 _ (List.mem_of_getElem? (i := 2) rfl)
theorem wi_703 : Cond.code yX8_light cX8_light 3 (some .int) ∈ gw_T := in_gc_49 _ (List.mem_of_getElem? (i := 3) rfl)
theorem wi_707 : Cond.code yX8_lit cX8_lit 2 (some .int) ∈ gw_T := in_gc_49 _ (List.mem_of_getElem? (i := 4) rfl)
theorem wi_711 : Cond.code yX3_litFrom cX3_litFrom 4 (some .int) ∈ gw_T := in_gc_49 _ (List.mem_of_getElem? (i := 5) rfl)
theorem wi_716 : Cond.code yX8_shaded cX8_shaded 2 (some .int) ∈ gw_T := in_gc_49 _ (List.mem_of_getElem? (i := 6) rfl)
theorem wi_720 : Cond.code yX3_shadedFrom cX3_shadedFrom 4 (some .int) ∈ gw_T := in_gc_49 _ (List.mem_of_getElem? (i := 7) rfl)
theorem wi_724 : Cond.code yX8_high cX8_high 3 (some .int) ∈ gw_T := in_gc_49 _ (List.mem_of_getElem? (i := 8) rfl)
theorem wi_728 : Cond.code yX3_leastHeight cX3_leastHeight 9 (some .int) ∈ gw_T := in_gc_49 _ (List.mem_of_getElem? (i := 9) rfl)
theorem wi_732 : Cond.code yX8_highFor cX8_highFor 7 (some .int) ∈ gw_T := in_gc_49 _ (List.mem_of_getElem? (i := 10) rfl)
theorem wi_736 : Cond.code yX3_areStrips cX3_areStrips 2 (some .boolean) ∈ gw_T := in_gc_49 _ (List.mem_of_getElem? (i := 11) rfl)
theorem wi_740 : Cond.code yX3_allStrips cX3_allStrips 1 (some .int) ∈ gw_T := in_gc_50 _ (List.mem_of_getElem? (i := 0) rfl)
theorem wi_744 : Cond.code yX3_leastHeightForAll cX3_leastHeightForAll 6 (some .int) ∈ gw_T := in_gc_50 _ (List.mem_of_getElem? (i := 1) rfl)
theorem wi_749 : Cond.code yX8_height cX8_height 3 (some .int) ∈ gw_T := in_gc_50 _ (List.mem_of_getElem? (i := 2) rfl)
theorem wi_753 : Cond.code yX8_fell cX8_fell 3 (some .int) ∈ gw_T := in_gc_50 _ (List.mem_of_getElem? (i := 3) rfl)
theorem wi_757 : Cond.code yX8_minute cX8_minute 3 (some .int) ∈ gw_T := in_gc_50 _ (List.mem_of_getElem? (i := 4) rfl)
theorem wi_761 : Cond.code yX3_whyNot cX3_whyNot 3 (some .int) ∈ gw_T := in_gc_50 _ (List.mem_of_getElem? (i := 5) rfl)
theorem wi_765 : Cond.code yX3_target cX3_target 5 (some .int) ∈ gw_T := in_gc_50 _ (List.mem_of_getElem? (i := 6) rfl)
theorem wi_772 : Cond.code yX3_pass cX3_pass 6 (some .int) ∈ gw_T := in_gc_50 _ (List.mem_of_getElem? (i := 7) rfl)
theorem wi_776 : Cond.code yX8_judge cX8_judge 6 (some .int) ∈ gw_T := in_gc_50 _ (List.mem_of_getElem? (i := 8) rfl)
theorem wi_779 : Cond.code yX8_isRow cX8_isRow 1 (some .boolean) ∈ gw_T := in_gc_50 _ (List.mem_of_getElem? (i := 9) rfl)
theorem wi_783 : Cond.code yX3_passAll cX3_passAll 5 (some .int) ∈ gw_T := in_gc_50 _ (List.mem_of_getElem? (i := 10) rfl)
theorem wi_787 : Cond.code yX4_valueAt cX4_valueAt 2 (some .long) ∈ gw_T := in_gc_50 _ (List.mem_of_getElem? (i := 11) rfl)
theorem wi_795 : Cond.code yX3_sum cX3_sum 4 (some .int) ∈ gw_T := in_gc_51 _ (List.mem_of_getElem? (i := 0) rfl)
theorem wi_799 : Cond.code yX3_hangsOver cX3_hangsOver 1 (some .int) ∈ gw_T := in_gc_51 _ (List.mem_of_getElem? (i := 1) rfl)
theorem wi_803 : Cond.code yX8_perform cX8_perform 2 (some .int) ∈ gw_T := in_gc_51 _ (List.mem_of_getElem? (i := 2) rfl)
theorem wi_807 : Cond.code yX8_fill cX8_fill 2 (some .int) ∈ gw_T := in_gc_51 _ (List.mem_of_getElem? (i := 3) rfl)
theorem wi_812 : Cond.code yX8_night cX8_night 9 (some .int) ∈ gw_T := in_gc_51 _ (List.mem_of_getElem? (i := 4) rfl)
theorem wi_815 : Cond.code yX8_nextDraw cX8_nextDraw 1 (some .int) ∈ gw_T := in_gc_51 _ (List.mem_of_getElem? (i := 5) rfl)
theorem wi_820 : Cond.code yX8_walk cX8_walk 4 (some .int) ∈ gw_T := in_gc_51 _ (List.mem_of_getElem? (i := 6) rfl)
theorem wi_824 : Cond.code yX8_most cX8_most 4 (some .int) ∈ gw_T := in_gc_51 _ (List.mem_of_getElem? (i := 7) rfl)
theorem wi_827 : Cond.code yX8_isAskable cX8_isAskable 2 (some .boolean) ∈ gw_T := in_gc_51 _ (List.mem_of_getElem? (i := 8) rfl)
theorem wi_831 : Cond.code yX8_refusedSearch cX8_refusedSearch 4 (some .int) ∈ gw_T := in_gc_51 _ (List.mem_of_getElem? (i := 9) rfl)
theorem wi_835 : Cond.code yX8_possibleMinutes cX8_possibleMinutes 2 (some .int) ∈ gw_T := in_gc_51 _ (List.mem_of_getElem? (i := 10) rfl)
theorem wi_839 : Cond.code yX8_seek cX8_seek 5 none ∈ gw_T := in_gc_51 _ (List.mem_of_getElem? (i := 11) rfl)
theorem wi_843 : Cond.code yX7_lay cX7_lay 6 none ∈ gw_T := in_gc_52 _ (List.mem_of_getElem? (i := 0) rfl)
theorem wi_847 : Cond.code yX7_begin cX7_begin 3 none ∈ gw_T := in_gc_52 _ (List.mem_of_getElem? (i := 1) rfl)
theorem wi_853 : Cond.code yX7_layMinute cX7_layMinute 3 none ∈ gw_T := in_gc_52 _ (List.mem_of_getElem? (i := 2) rfl)
theorem wi_857 : Cond.code yX7_end cX7_end 2 (some .int) ∈ gw_T := in_gc_52 _ (List.mem_of_getElem? (i := 3) rfl)
theorem wi_862 : Cond.code yX7_first cX7_first 2 (some .int) ∈ gw_T := in_gc_52 _ (List.mem_of_getElem? (i := 4) rfl)
theorem wi_866 : Cond.code yX7_arrive cX7_arrive 11 none ∈ gw_T := in_gc_52 _ (List.mem_of_getElem? (i := 5) rfl)
theorem wi_871 : Cond.code yX7_append cX7_append 7 none ∈ gw_T := in_gc_52 _ (List.mem_of_getElem? (i := 6) rfl)
theorem wi_875 : Cond.code yX2_prepare cX2_prepare 5 none ∈ gw_T := in_gc_52 _ (List.mem_of_getElem? (i := 7) rfl)
theorem wi_879 : Cond.code yX2_weightOf cX2_weightOf 3 (some .int) ∈ gw_T := in_gc_52 _ (List.mem_of_getElem? (i := 8) rfl)
theorem wi_883 : Cond.code yX2_fillCaps cX2_fillCaps 6 none ∈ gw_T := in_gc_52 _ (List.mem_of_getElem? (i := 9) rfl)
theorem wi_890 : Cond.code yX2_firstWorth cX2_firstWorth 4 (some .int) ∈ gw_T := in_gc_52 _ (List.mem_of_getElem? (i := 10) rfl)
theorem wi_894 : Cond.code yX2_seekBest cX2_seekBest 7 none ∈ gw_T := in_gc_52 _ (List.mem_of_getElem? (i := 11) rfl)
theorem wi_900 : Cond.code yX2_open cX2_open 7 none ∈ gw_T := in_gc_53 _ (List.mem_of_getElem? (i := 0) rfl)
theorem wi_905 : Cond.code yX2_couldBeWorth cX2_couldBeWorth 3 (some .int) ∈ gw_T := in_gc_53 _ (List.mem_of_getElem? (i := 1) rfl)
theorem wi_909 : Cond.code yX2_fairScore cX2_fairScore 4 (some .int) ∈ gw_T := in_gc_53 _ (List.mem_of_getElem? (i := 2) rfl)
theorem wi_914 : Cond.code yX2_cutOf cX2_cutOf 5 (some .int) ∈ gw_T := in_gc_53 _ (List.mem_of_getElem? (i := 3) rfl)
theorem wi_918 : Cond.code yX2_weighedScore cX2_weighedScore 3 (some .int) ∈ gw_T := in_gc_53 _ (List.mem_of_getElem? (i := 4) rfl)
theorem wi_922 : Cond.code yX8_foundAnswer cX8_foundAnswer 4 (some .int) ∈ gw_T := in_gc_53 _ (List.mem_of_getElem? (i := 5) rfl)
theorem wi_926 : Cond.code yX7_moveOf cX7_moveOf 4 (some .int) ∈ gw_T := in_gc_53 _ (List.mem_of_getElem? (i := 6) rfl)
theorem wi_930 : Cond.code yX8_dearest cX8_dearest 4 (some .int) ∈ gw_T := in_gc_53 _ (List.mem_of_getElem? (i := 7) rfl)
theorem wi_934 : Cond.code yX8_fairest cX8_fairest 5 (some .int) ∈ gw_T := in_gc_53 _ (List.mem_of_getElem? (i := 8) rfl)
theorem wi_937 : Cond.code yX2_fewestIn cX2_fewestIn 1 (some .int) ∈ gw_T := in_gc_53 _ (List.mem_of_getElem? (i := 9) rfl)
theorem wi_940 : Cond.code yX2_allIn cX2_allIn 1 (some .int) ∈ gw_T := in_gc_53 _ (List.mem_of_getElem? (i := 10) rfl)
theorem wi_944 : Cond.code yX8_alone cX8_alone 5 (some .int) ∈ gw_T := in_gc_53 _ (List.mem_of_getElem? (i := 11) rfl)
theorem wi_948 : Cond.code yX8_pays cX8_pays 5 (some .int) ∈ gw_T := in_gc_54 _ (List.mem_of_getElem? (i := 0) rfl)
theorem wi_952 : Cond.code yX2_bidsOf cX2_bidsOf 6 (some .int) ∈ gw_T := in_gc_54 _ (List.mem_of_getElem? (i := 1) rfl)
theorem wi_956 : Cond.code yX8_shifted cX8_shifted 8 (some .int) ∈ gw_T := in_gc_54 _ (List.mem_of_getElem? (i := 2) rfl)
theorem wi_960 : Cond.code yX5_seekAll cX5_seekAll 6 none ∈ gw_T := in_gc_54 _ (List.mem_of_getElem? (i := 3) rfl)
theorem wi_969 : Cond.code yX5_weigh cX5_weigh 9 none ∈ gw_T := in_gc_54 _ (List.mem_of_getElem? (i := 4) rfl)
theorem wi_974 : Cond.code yX8_canShift cX8_canShift 3 (some .boolean) ∈ gw_T := in_gc_54 _ (List.mem_of_getElem? (i := 5) rfl)
theorem wi_978 : Cond.code yX8_felled cX8_felled 8 (some .int) ∈ gw_T := in_gc_54 _ (List.mem_of_getElem? (i := 6) rfl)
theorem wi_982 : Cond.code yX8_soonest cX8_soonest 4 (some .int) ∈ gw_T := in_gc_54 _ (List.mem_of_getElem? (i := 7) rfl)
theorem wi_986 : Cond.code yX8_dark cX8_dark 3 (some .int) ∈ gw_T := in_gc_54 _ (List.mem_of_getElem? (i := 8) rfl)
theorem wi_991 : Cond.code yX8_ends cX8_ends 4 (some .int) ∈ gw_T := in_gc_54 _ (List.mem_of_getElem? (i := 9) rfl)
theorem wi_995 : Cond.code yX1_countUnlike cX1_countUnlike 6 (some .int) ∈ gw_T := in_gc_54 _ (List.mem_of_getElem? (i := 10) rfl)
theorem wi_1001 : Cond.code yX1_packed cX1_packed 6 (some .long) ∈ gw_T := in_gc_54 _ (List.mem_of_getElem? (i := 11) rfl)
theorem wi_1007 : Cond.code yX1_keep cX1_keep 6 none ∈ gw_T := in_gc_55 _ (List.mem_of_getElem? (i := 0) rfl)
theorem wi_1011 : Cond.code yX8_halts cX8_halts 2 (some .int) ∈ gw_T := in_gc_55 _ (List.mem_of_getElem? (i := 1) rfl)
theorem wi_1015 : Cond.code yX0_fewest cX0_fewest 5 (some .int) ∈ gw_T := in_gc_55 _ (List.mem_of_getElem? (i := 2) rfl)
theorem wi_1019 : Cond.code yX0_look cX0_look 4 none ∈ gw_T := in_gc_55 _ (List.mem_of_getElem? (i := 3) rfl)
theorem wi_1025 : Cond.code yX0_canLight cX0_canLight 8 (some .boolean) ∈ gw_T := in_gc_55 _ (List.mem_of_getElem? (i := 4) rfl)
theorem wi_1028 : Cond.code yJ6_numberOfTrailingZeros_0f7a4 cJ6_numberOfTrailingZeros_0f7a4 2 (some .int) ∈ gw_T := in_gc_55 _ (List.mem_of_getElem? (i := 5) rfl)
theorem wi_1033 : Cond.code yX0_leastBits cX0_leastBits 8 (some .int) ∈ gw_T := in_gc_55 _ (List.mem_of_getElem? (i := 6) rfl)
theorem wi_1037 : Cond.code yX8_tour cX8_tour 5 (some .int) ∈ gw_T := in_gc_55 _ (List.mem_of_getElem? (i := 7) rfl)
theorem wi_1041 : Cond.code yJ6_numberOfLeadingZeros_0f7a4 cJ6_numberOfLeadingZeros_0f7a4 2 (some .int) ∈ gw_T := in_gc_55 _ (List.mem_of_getElem? (i := 8) rfl)
theorem wi_1046 : Cond.code yX8_stubble cX8_stubble 4 (some .int) ∈ gw_T := in_gc_55 _ (List.mem_of_getElem? (i := 9) rfl)
theorem wi_1050 : Cond.code yX8_refusedStubble cX8_refusedStubble 3 (some .int) ∈ gw_T := in_gc_55 _ (List.mem_of_getElem? (i := 10) rfl)
theorem wi_1054 : Cond.code yX8_explain cX8_explain 3 none ∈ gw_T := in_gc_55 _ (List.mem_of_getElem? (i := 11) rfl)
theorem wi_1058 : Cond.code yX1_explainNothing cX1_explainNothing 1 none ∈ gw_T := in_gc_56 _ (List.mem_of_getElem? (i := 0) rfl)
theorem wi_1062 : Cond.code yX1_explain cX1_explain 8 none ∈ gw_T := in_gc_56 _ (List.mem_of_getElem? (i := 1) rfl)
theorem wi_1067 : Cond.code yX1_leaves cX1_leaves 3 (some .boolean) ∈ gw_T := in_gc_56 _ (List.mem_of_getElem? (i := 2) rfl)
theorem wi_1072 : Cond.code yX2_stripsHungOver cX2_stripsHungOver 3 (some .int) ∈ gw_T := in_gc_56 _ (List.mem_of_getElem? (i := 3) rfl)
theorem wi_1076 : Cond.code yX8_sure cX8_sure 4 (some .int) ∈ gw_T := in_gc_56 _ (List.mem_of_getElem? (i := 4) rfl)
theorem wi_1080 : Cond.code yX8_meets cX8_meets 4 (some .int) ∈ gw_T := in_gc_56 _ (List.mem_of_getElem? (i := 5) rfl)
theorem wi_1084 : Cond.code yX8_refusedMeeting cX8_refusedMeeting 5 (some .int) ∈ gw_T := in_gc_56 _ (List.mem_of_getElem? (i := 6) rfl)
theorem wi_1088 : Cond.code yX8_firstMeeting cX8_firstMeeting 7 (some .int) ∈ gw_T := in_gc_56 _ (List.mem_of_getElem? (i := 7) rfl)
theorem wi_1092 : Cond.code yX8_delay cX8_delay 5 (some .int) ∈ gw_T := in_gc_56 _ (List.mem_of_getElem? (i := 8) rfl)
theorem wi_1096 : Cond.code yX8_numbers cX8_numbers 4 (some .int) ∈ gw_T := in_gc_56 _ (List.mem_of_getElem? (i := 9) rfl)
theorem wi_1100 : Cond.code yX4_renew cX4_renew 3 none ∈ gw_T := in_gc_56 _ (List.mem_of_getElem? (i := 10) rfl)
theorem wi_1105 : Cond.code yJ7_fill_d0a16 cJ7_fill_d0a16 5 none ∈ gw_T := in_gc_56 _ (List.mem_of_getElem? (i := 11) rfl)
theorem wi_1109 : Cond.code yX8_write cX8_write 6 (some .long) ∈ gw_T := in_gc_57 _ (List.mem_of_getElem? (i := 0) rfl)
theorem wi_1116 : Cond.code yX4_put cX4_put 4 (some .long) ∈ gw_T := in_gc_57 _ (List.mem_of_getElem? (i := 1) rfl)
theorem wi_1121 : Cond.code yX4_cut cX4_cut 3 (some .long) ∈ gw_T := in_gc_57 _ (List.mem_of_getElem? (i := 2) rfl)
theorem wi_1125 : Cond.code yX8_copy cX8_copy 4 (some .int) ∈ gw_T := in_gc_57 _ (List.mem_of_getElem? (i := 3) rfl)
theorem wi_1129 : Cond.code yX8_image cX8_image 2 (some .int) ∈ gw_T := in_gc_57 _ (List.mem_of_getElem? (i := 4) rfl)
theorem wi_1133 : Cond.code yX8_restore cX8_restore 2 (some .int) ∈ gw_T := in_gc_57 _ (List.mem_of_getElem? (i := 5) rfl)
theorem wi_1137 : Cond.code yX8_count cX8_count 2 (some .int) ∈ gw_T := in_gc_57 _ (List.mem_of_getElem? (i := 6) rfl)
theorem wi_1142 : Cond.code yX9_init cX9_init 1 none ∈ gw_T := in_gc_57 _ (List.mem_of_getElem? (i := 7) rfl)
theorem wi_1146 : Cond.code yX9_plainIn cX9_plainIn 2 none ∈ gw_T := in_gc_57 _ (List.mem_of_getElem? (i := 8) rfl)
theorem wi_1149 : Cond.code yX9_lampIn cX9_lampIn 1 none ∈ gw_T := in_gc_57 _ (List.mem_of_getElem? (i := 9) rfl)
theorem wi_1265 : Cond.code yX9_feed cX9_feed 8 (some .int) ∈ gw_T := in_gc_57 _ (List.mem_of_getElem? (i := 10) rfl)
theorem wi_1269 : Cond.code yX9_plain cX9_plain 3 (some .int) ∈ gw_T := in_gc_57 _ (List.mem_of_getElem? (i := 11) rfl)
theorem wi_1272 : Cond.code yX9_within cX9_within 6 (some .boolean) ∈ gw_T := in_gc_58 _ (List.mem_of_getElem? (i := 0) rfl)
theorem wi_1276 : Cond.code yX9_next cX9_next 1 none ∈ gw_T := in_gc_58 _ (List.mem_of_getElem? (i := 1) rfl)
theorem wi_1280 : Cond.code yX9_see cX9_see 2 (some .int) ∈ gw_T := in_gc_58 _ (List.mem_of_getElem? (i := 2) rfl)
theorem wi_1283 : Cond.code yX9_isSmall cX9_isSmall 1 (some .boolean) ∈ gw_T := in_gc_58 _ (List.mem_of_getElem? (i := 3) rfl)
theorem wi_1287 : Cond.code yX9_keyAt cX9_keyAt 4 (some .int) ∈ gw_T := in_gc_58 _ (List.mem_of_getElem? (i := 4) rfl)
theorem wi_1293 : Cond.code yX9_isDigit cX9_isDigit 1 (some .boolean) ∈ gw_T := in_gc_58 _ (List.mem_of_getElem? (i := 5) rfl)
theorem wi_1297 : Cond.code yX9_readLine cX9_readLine 1 none ∈ gw_T := in_gc_58 _ (List.mem_of_getElem? (i := 6) rfl)
theorem wi_1301 : Cond.code yX9_is cX9_is 2 (some .boolean) ∈ gw_T := in_gc_58 _ (List.mem_of_getElem? (i := 7) rfl)
theorem wi_1305 : Cond.code yX9_readStrip cX9_readStrip 6 none ∈ gw_T := in_gc_58 _ (List.mem_of_getElem? (i := 8) rfl)
theorem wi_1309 : Cond.code yX9_fails cX9_fails 2 none ∈ gw_T := in_gc_58 _ (List.mem_of_getElem? (i := 9) rfl)
theorem wi_1313 : Cond.code yX9_takes cX9_takes 4 (some .int) ∈ gw_T := in_gc_58 _ (List.mem_of_getElem? (i := 10) rfl)
theorem wi_1317 : Cond.code yX9_takesIf cX9_takesIf 5 (some .int) ∈ gw_T := in_gc_58 _ (List.mem_of_getElem? (i := 11) rfl)
theorem wi_1321 : Cond.code yX9_eats cX9_eats 2 (some .boolean) ∈ gw_T := in_gc_59 _ (List.mem_of_getElem? (i := 0) rfl)
theorem wi_1325 : Cond.code yX9_readLamp cX9_readLamp 1 none ∈ gw_T := in_gc_59 _ (List.mem_of_getElem? (i := 1) rfl)
theorem wi_1329 : Cond.code yX9_readBid cX9_readBid 3 none ∈ gw_T := in_gc_59 _ (List.mem_of_getElem? (i := 2) rfl)
theorem wi_1333 : Cond.code yX9_fault cX9_fault 2 (some .int) ∈ gw_T := in_gc_59 _ (List.mem_of_getElem? (i := 3) rfl)
theorem wi_1337 : Cond.code yX9_strip cX9_strip 3 (some .int) ∈ gw_T := in_gc_59 _ (List.mem_of_getElem? (i := 4) rfl)
theorem wi_1341 : Cond.code yX9_isStrip cX9_isStrip 2 (some .boolean) ∈ gw_T := in_gc_59 _ (List.mem_of_getElem? (i := 5) rfl)
theorem wi_1346 : Cond.code yX9_lightOf cX9_lightOf 3 (some .int) ∈ gw_T := in_gc_59 _ (List.mem_of_getElem? (i := 6) rfl)
theorem wi_1350 : Cond.code yX9_lightBy cX9_lightBy 4 (some .int) ∈ gw_T := in_gc_59 _ (List.mem_of_getElem? (i := 7) rfl)
theorem wi_1354 : Cond.code yX9_isShaded cX9_isShaded 7 (some .boolean) ∈ gw_T := in_gc_59 _ (List.mem_of_getElem? (i := 8) rfl)
theorem wi_1357 : Cond.code yX9_off cX9_off 2 (some .int) ∈ gw_T := in_gc_59 _ (List.mem_of_getElem? (i := 9) rfl)
theorem wi_1361 : Cond.code yX9_nearness cX9_nearness 4 (some .int) ∈ gw_T := in_gc_59 _ (List.mem_of_getElem? (i := 10) rfl)
theorem wi_1365 : Cond.code yX9_farm cX9_farm 3 (some .int) ∈ gw_T := in_gc_59 _ (List.mem_of_getElem? (i := 11) rfl)
theorem wi_1370 : Cond.code yX9_ofFarm cX9_ofFarm 5 (some .int) ∈ gw_T := in_gc_60 _ (List.mem_of_getElem? (i := 0) rfl)
theorem wi_1374 : Cond.code yX9_stripsOf cX9_stripsOf 4 (some .int) ∈ gw_T := in_gc_60 _ (List.mem_of_getElem? (i := 1) rfl)
theorem wi_1378 : Cond.code yX9_light cX9_light 3 (some .int) ∈ gw_T := in_gc_60 _ (List.mem_of_getElem? (i := 2) rfl)
theorem wi_1382 : Cond.code yX9_lit cX9_lit 2 (some .int) ∈ gw_T := in_gc_60 _ (List.mem_of_getElem? (i := 3) rfl)
theorem wi_1386 : Cond.code yX9_litBy cX9_litBy 5 (some .int) ∈ gw_T := in_gc_60 _ (List.mem_of_getElem? (i := 4) rfl)
theorem wi_1390 : Cond.code yX9_shaded cX9_shaded 4 (some .int) ∈ gw_T := in_gc_60 _ (List.mem_of_getElem? (i := 5) rfl)
theorem wi_1394 : Cond.code yX9_high cX9_high 4 (some .int) ∈ gw_T := in_gc_60 _ (List.mem_of_getElem? (i := 6) rfl)
theorem wi_1398 : Cond.code yX9_highFor cX9_highFor 5 (some .int) ∈ gw_T := in_gc_60 _ (List.mem_of_getElem? (i := 7) rfl)
theorem wi_1402 : Cond.code yX9_isSet cX9_isSet 2 (some .boolean) ∈ gw_T := in_gc_60 _ (List.mem_of_getElem? (i := 8) rfl)
theorem wi_1406 : Cond.code yX9_height cX9_height 3 (some .int) ∈ gw_T := in_gc_60 _ (List.mem_of_getElem? (i := 9) rfl)
theorem wi_1411 : Cond.code yX9_fell cX9_fell 3 (some .int) ∈ gw_T := in_gc_60 _ (List.mem_of_getElem? (i := 10) rfl)
theorem wi_1415 : Cond.code yX9_minute cX9_minute 3 (some .int) ∈ gw_T := in_gc_60 _ (List.mem_of_getElem? (i := 11) rfl)
theorem wi_1419 : Cond.code yX9_refuses cX9_refuses 3 (some .int) ∈ gw_T := in_gc_61 _ (List.mem_of_getElem? (i := 0) rfl)
theorem wi_1423 : Cond.code yX9_then cX9_then 3 (some .int) ∈ gw_T := in_gc_61 _ (List.mem_of_getElem? (i := 1) rfl)
theorem wi_1427 : Cond.code yX9_goes cX9_goes 6 (some .int) ∈ gw_T := in_gc_61 _ (List.mem_of_getElem? (i := 2) rfl)
theorem wi_1431 : Cond.code yX9_judge cX9_judge 5 (some .int) ∈ gw_T := in_gc_61 _ (List.mem_of_getElem? (i := 3) rfl)
theorem wi_1435 : Cond.code yX9_keeps cX9_keeps 3 none ∈ gw_T := in_gc_61 _ (List.mem_of_getElem? (i := 4) rfl)
theorem wi_1439 : Cond.code yX9_movesOf cX9_movesOf 3 (some .int) ∈ gw_T := in_gc_61 _ (List.mem_of_getElem? (i := 5) rfl)
theorem wi_1443 : Cond.code yX9_isAgain cX9_isAgain 3 none ∈ gw_T := in_gc_61 _ (List.mem_of_getElem? (i := 6) rfl)
theorem wi_1447 : Cond.code yX9_perform cX9_perform 2 (some .int) ∈ gw_T := in_gc_61 _ (List.mem_of_getElem? (i := 7) rfl)
theorem wi_1451 : Cond.code yX9_fill cX9_fill 2 (some .int) ∈ gw_T := in_gc_61 _ (List.mem_of_getElem? (i := 8) rfl)
theorem wi_1456 : Cond.code yX9_night cX9_night 7 (some .int) ∈ gw_T := in_gc_61 _ (List.mem_of_getElem? (i := 9) rfl)
theorem wi_1461 : Cond.code yX9_draw cX9_draw 2 (some .int) ∈ gw_T := in_gc_61 _ (List.mem_of_getElem? (i := 10) rfl)
theorem wi_1466 : Cond.code yX9_walk cX9_walk 4 (some .int) ∈ gw_T := in_gc_61 _ (List.mem_of_getElem? (i := 11) rfl)
theorem wi_1470 : Cond.code yX9_most cX9_most 3 (some .int) ∈ gw_T := in_gc_62 _ (List.mem_of_getElem? (i := 0) rfl)
theorem wi_1474 : Cond.code yX9_told cX9_told 6 (some .int) ∈ gw_T := in_gc_62 _ (List.mem_of_getElem? (i := 1) rfl)
theorem wi_1481 : Cond.code yX9_laysBest cX9_laysBest 5 (some .int) ∈ gw_T := in_gc_62 _ (List.mem_of_getElem? (i := 2) rfl)
theorem wi_1485 : Cond.code yX9_minutesOf cX9_minutesOf 3 (some .int) ∈ gw_T := in_gc_62 _ (List.mem_of_getElem? (i := 3) rfl)
theorem wi_1489 : Cond.code yX9_seeks cX9_seeks 9 none ∈ gw_T := in_gc_62 _ (List.mem_of_getElem? (i := 4) rfl)
theorem wi_1493 : Cond.code yX9_firstWorth cX9_firstWorth 4 (some .int) ∈ gw_T := in_gc_62 _ (List.mem_of_getElem? (i := 5) rfl)
theorem wi_1497 : Cond.code yX9_total cX9_total 3 (some .int) ∈ gw_T := in_gc_62 _ (List.mem_of_getElem? (i := 6) rfl)
theorem wi_1501 : Cond.code yX9_dearest cX9_dearest 3 (some .int) ∈ gw_T := in_gc_62 _ (List.mem_of_getElem? (i := 7) rfl)
theorem wi_1505 : Cond.code yX9_fairest cX9_fairest 3 (some .int) ∈ gw_T := in_gc_62 _ (List.mem_of_getElem? (i := 8) rfl)
theorem wi_1509 : Cond.code yX9_alone cX9_alone 4 (some .int) ∈ gw_T := in_gc_62 _ (List.mem_of_getElem? (i := 9) rfl)
theorem wi_1513 : Cond.code yX9_pays cX9_pays 6 (some .int) ∈ gw_T := in_gc_62 _ (List.mem_of_getElem? (i := 10) rfl)
theorem wi_1517 : Cond.code yX9_shifted cX9_shifted 10 (some .int) ∈ gw_T := in_gc_62 _ (List.mem_of_getElem? (i := 11) rfl)
theorem wi_1521 : Cond.code yX9_felled cX9_felled 9 (some .int) ∈ gw_T := in_gc_63 _ (List.mem_of_getElem? (i := 0) rfl)
theorem wi_1526 : Cond.code yX9_soonest cX9_soonest 3 (some .int) ∈ gw_T := in_gc_63 _ (List.mem_of_getElem? (i := 1) rfl)
theorem wi_1531 : Cond.code yX9_dark cX9_dark 3 (some .int) ∈ gw_T := in_gc_63 _ (List.mem_of_getElem? (i := 2) rfl)
theorem wi_1535 : Cond.code yX9_ends cX9_ends 2 (some .int) ∈ gw_T := in_gc_63 _ (List.mem_of_getElem? (i := 3) rfl)
theorem wi_1539 : Cond.code yX9_gathers cX9_gathers 4 none ∈ gw_T := in_gc_63 _ (List.mem_of_getElem? (i := 4) rfl)
theorem wi_1543 : Cond.code yX9_isMet cX9_isMet 3 (some .boolean) ∈ gw_T := in_gc_63 _ (List.mem_of_getElem? (i := 5) rfl)
theorem wi_1547 : Cond.code yX9_halts cX9_halts 2 (some .int) ∈ gw_T := in_gc_63 _ (List.mem_of_getElem? (i := 6) rfl)
theorem wi_1551 : Cond.code yX9_haltsFor cX9_haltsFor 6 (some .int) ∈ gw_T := in_gc_63 _ (List.mem_of_getElem? (i := 7) rfl)
theorem wi_1554 : Cond.code yX9_bitsOf cX9_bitsOf 3 (some .int) ∈ gw_T := in_gc_63 _ (List.mem_of_getElem? (i := 8) rfl)
theorem wi_1558 : Cond.code yX9_tour cX9_tour 7 (some .int) ∈ gw_T := in_gc_63 _ (List.mem_of_getElem? (i := 9) rfl)
theorem wi_1562 : Cond.code yX9_stubble cX9_stubble 4 (some .int) ∈ gw_T := in_gc_63 _ (List.mem_of_getElem? (i := 10) rfl)
theorem wi_1566 : Cond.code yX9_laysStubble cX9_laysStubble 3 (some .int) ∈ gw_T := in_gc_63 _ (List.mem_of_getElem? (i := 11) rfl)
theorem wi_1570 : Cond.code yX9_explains cX9_explains 6 none ∈ gw_T := in_gc_64 _ (List.mem_of_getElem? (i := 0) rfl)
theorem wi_1574 : Cond.code yX9_sure cX9_sure 4 (some .int) ∈ gw_T := in_gc_64 _ (List.mem_of_getElem? (i := 1) rfl)
theorem wi_1578 : Cond.code yX9_meets cX9_meets 5 (some .int) ∈ gw_T := in_gc_64 _ (List.mem_of_getElem? (i := 2) rfl)
theorem wi_1582 : Cond.code yX9_canWalk cX9_canWalk 6 (some .boolean) ∈ gw_T := in_gc_64 _ (List.mem_of_getElem? (i := 3) rfl)
theorem wi_1586 : Cond.code yX9_isOther cX9_isOther 3 (some .boolean) ∈ gw_T := in_gc_64 _ (List.mem_of_getElem? (i := 4) rfl)
theorem wi_1590 : Cond.code yX9_delay cX9_delay 4 (some .int) ∈ gw_T := in_gc_64 _ (List.mem_of_getElem? (i := 5) rfl)
theorem wi_1594 : Cond.code yX9_meetBy cX9_meetBy 6 (some .boolean) ∈ gw_T := in_gc_64 _ (List.mem_of_getElem? (i := 6) rfl)
theorem wi_1598 : Cond.code yX9_numbers cX9_numbers 5 (some .int) ∈ gw_T := in_gc_64 _ (List.mem_of_getElem? (i := 7) rfl)
theorem wi_1603 : Cond.code yX9_write cX9_write 5 (some .long) ∈ gw_T := in_gc_64 _ (List.mem_of_getElem? (i := 8) rfl)
theorem wi_1609 : Cond.code yX9_cut cX9_cut 3 (some .long) ∈ gw_T := in_gc_64 _ (List.mem_of_getElem? (i := 9) rfl)
theorem wi_1613 : Cond.code yX9_copy cX9_copy 3 (some .int) ∈ gw_T := in_gc_64 _ (List.mem_of_getElem? (i := 10) rfl)
theorem wi_1617 : Cond.code yX9_image cX9_image 3 (some .int) ∈ gw_T := in_gc_64 _ (List.mem_of_getElem? (i := 11) rfl)
theorem wi_1621 : Cond.code yX9_restore cX9_restore 3 (some .int) ∈ gw_T := in_gc_65 _ (List.mem_of_getElem? (i := 0) rfl)
theorem wi_1625 : Cond.code yX9_count cX9_count 2 (some .int) ∈ gw_T := in_gc_65 _ (List.mem_of_getElem? (i := 1) rfl)
theorem wi_1629 : Cond.code yX9_sumOf cX9_sumOf 4 (some .int) ∈ gw_T := in_gc_65 _ (List.mem_of_getElem? (i := 2) rfl)
theorem fm_in {ws : List Cond} (ps : List Nat) (hp : ws = ps.filterMap (fun i => lw_tbl[i]?)) : ∀ w ∈ ws, w ∈ lw_tbl := by
  intro w hw
  rw [hp] at hw
  obtain ⟨i, -, hi⟩ := List.mem_filterMap.mp hw
  exact List.mem_of_getElem? hi
def slm : List Bool → List Cond → List Cond
  | [], _ => []
  | _ :: _, [] => []
  | true :: m, w :: l => w :: slm m l
  | false :: m, _ :: l => slm m l
theorem slm_sub : ∀ (m : List Bool) (l : List Cond), ∀ w ∈ slm m l, w ∈ l
  | [], _, w, h => by cases (show w ∈ ([] : List Cond) from h)
  | _ :: _, [], w, h => by cases (show w ∈ ([] : List Cond) from h)
  | true :: m, x :: l, w, h => by
    rcases List.mem_cons.mp (show w ∈ x :: slm m l from h) with q | q
    · exact List.mem_cons.mpr (Or.inl q)
    · exact List.mem_cons.mpr (Or.inr (slm_sub m l w q))
  | false :: m, x :: l, w, h => List.mem_cons.mpr (Or.inr (slm_sub m l w h))
theorem slm_in {ws : List Cond} (a : Nat) (m : List Bool) (h : ws = slm m (lw_tbl.drop a)) : ∀ w ∈ ws, w ∈ lw_tbl := fun w hw => List.mem_of_mem_drop (slm_sub m _ w (h ▸ hw))
set_option maxRecDepth 100000 in
theorem lt_gl_0 : ∀ w ∈ gl_0, w ∈ lw_tbl := slm_in 441 [true, false, true] rfl
set_option maxRecDepth 100000 in
theorem lt_gl_1 : ∀ w ∈ gl_1, w ∈ lw_tbl := slm_in 422 [true, false, true, false, true, false, true, false, true] rfl
set_option maxRecDepth 100000 in
theorem lt_gl_2 : ∀ w ∈ gl_2, w ∈ lw_tbl := slm_in 363 [true, false, true, false, true, false, true, false, true, false, true, false, true, false, true, false, true, false, true, false, true] rfl
set_option maxRecDepth 100000 in
theorem lt_gl_3 : ∀ w ∈ gl_3, w ∈ lw_tbl := slm_in 217 [true, false, true, false, true, false, true, false, true, false, true, false, true, false, true, false, true, false, true, false, true, false, true, false, true, false, true, false, true, false, true] rfl
set_option maxRecDepth 100000 in
theorem lt_gl_4 : ∀ w ∈ gl_4, w ∈ lw_tbl := slm_in 458 [true, false, true, false, true, false, true] rfl
set_option maxRecDepth 100000 in
theorem lt_gl_5 : ∀ w ∈ gl_5, w ∈ lw_tbl := slm_in 398 [true, false, true, false, true, false, true, false, true] rfl
set_option maxRecDepth 100000 in
theorem lt_gl_6 : ∀ w ∈ gl_6, w ∈ lw_tbl := slm_in 264 [true, false, true, false, true, false, true, false, true, false, true, false, true, false, true, false, true] rfl
set_option maxRecDepth 100000 in
theorem lt_gl_7 : ∀ w ∈ gl_7, w ∈ lw_tbl := slm_in 313 [true, false, true, false, true, false, true, false, true, false, true, false, true, false, true, false, true, false, true, false, true] rfl
set_option maxRecDepth 100000 in
theorem lt_gl_8 : ∀ w ∈ gl_8, w ∈ lw_tbl := slm_in 480 [true, false, true, false, true, false, true, false, true, false, true, false, true, false, true, false, true, false, true, false, true, false, true, false, true] rfl
set_option maxRecDepth 100000 in
theorem lt_gl_9 : ∀ w ∈ gl_9, w ∈ lw_tbl := slm_in 1187 [true, false, true, false, true, false, true, false, true, false, true, false, true, false, true, false, true, false, true, false, true, false, true, false, true, false, true, false, true, false, true, false, true, false, true, false, true, false, true, false, true, false, true, false, true, false, true, false, true, false, true, false, true, false, true, false, true, false, true, false, true, false, true, false, true, false, true, false, true, false, true, false, true] rfl
set_option maxRecDepth 100000 in
theorem lt_gc_0 : ∀ w ∈ gc_0, w ∈ lw_tbl := slm_in 0 [true, true, true, true, true, true, true, true, true, true, true, true, true, true, true, true, true, true, true, true] rfl
set_option maxRecDepth 100000 in
theorem lt_gc_1 : ∀ w ∈ gc_1, w ∈ lw_tbl := slm_in 20 [true, true, true, true, true, true, true, true, true, true, true, true, true, true, true, true, true, true, true, true] rfl
set_option maxRecDepth 100000 in
theorem lt_gc_2 : ∀ w ∈ gc_2, w ∈ lw_tbl := slm_in 40 [true, true, true, true, true, true, true, true, true, true, true, true, true, true, true, true, true, true, true, true] rfl
set_option maxRecDepth 100000 in
theorem lt_gc_3 : ∀ w ∈ gc_3, w ∈ lw_tbl := slm_in 60 [true, true, true, true, true, true, true, true, true, true, true, true, true, true, true, true, true, true, true, true] rfl
set_option maxRecDepth 100000 in
theorem lt_gc_4 : ∀ w ∈ gc_4, w ∈ lw_tbl := slm_in 80 [true, true, true, true, true, true, true, true, true, true, true, true, true, true, true, true, true, true, true, true] rfl
set_option maxRecDepth 100000 in
theorem lt_gc_5 : ∀ w ∈ gc_5, w ∈ lw_tbl := slm_in 100 [true, true, true, true, true, true, true, true, true, true, true, true, true, true, true, true, true, true, true, true] rfl
set_option maxRecDepth 100000 in
theorem lt_gc_6 : ∀ w ∈ gc_6, w ∈ lw_tbl := slm_in 120 [true, true, true, true, true, true, true, true, true, true, true, true, true, true, true, true, true, true, true, true] rfl
set_option maxRecDepth 100000 in
theorem lt_gc_7 : ∀ w ∈ gc_7, w ∈ lw_tbl := slm_in 140 [true, true, true, false, true, true, false, true, true, false, true, false, true, true, true, false, true, false, true, true, false, true, false, true, true, false, true, false, false, false, false, false, false, true, false, false, true] rfl
set_option maxRecDepth 100000 in
theorem lt_gc_8 : ∀ w ∈ gc_8, w ∈ lw_tbl := slm_in 178 [true, false, false, true, false, false, true, false, false, true, false, false, true, false, false, true, false, false, true, false, false, true, false, false, false, true, false, false, true, false, true, false, false, true, false, true, false, false, false, false, false, false, false, false, false, false, false, false, false, false, false, false, false, false, false, false, false, false, false, false, false, false, false, false, false, false, false, false, false, false, false, false, true, true, true, false, true, false, true, false, true, true] rfl
set_option maxRecDepth 100000 in
theorem lt_gc_9 : ∀ w ∈ gc_9, w ∈ lw_tbl := slm_in 260 [true, true, true, true, false, false, false, false, false, false, false, false, false, false, false, false, false, false, false, false, false, false, false, true, false, false, true, false, true, true, false, true, false, true, true, false, false, false, false, true, true, false, true, true, false, false, false, true, true, true, true, true] rfl
set_option maxRecDepth 100000 in
theorem lt_gc_10 : ∀ w ∈ gc_10, w ∈ lw_tbl := slm_in 312 [true, false, false, false, false, false, false, false, false, false, false, false, false, false, false, false, false, false, false, false, false, false, false, false, true, true, true, true, false, true, false, true, true, false, true, false, false, true, true, true, false, false, true, true, true, true, true, true, false, true, false, false, false, false, false, false, false, false, false, false, false, false, false, false, false, false, false, false, false, false, false, false, false, false, true] rfl
set_option maxRecDepth 100000 in
theorem lt_gc_11 : ∀ w ∈ gc_11, w ∈ lw_tbl := slm_in 387 [true, false, true, false, true, true, true, true, true, true, false, false, false, false, false, false, false, false, false, false, false, false, true, true, false, true, false, true, true, true, true, true, false, true, false, false, false, false, false, false, false, false, false, false, false, false, true, true, false, true] rfl
set_option maxRecDepth 100000 in
theorem lt_gc_12 : ∀ w ∈ gc_12, w ∈ lw_tbl := slm_in 438 [true, true, true, false, false, false, false, false, true, false, true, false, true, true, false, true, true, false, false, true, false, false, false, false, false, false, false, false, false, true, true, true, true, true, true, true, true, true, true] rfl
set_option maxRecDepth 100000 in
theorem lt_gc_13 : ∀ w ∈ gc_13, w ∈ lw_tbl := slm_in 477 [true, true, true, false, false, false, false, false, false, false, false, false, false, false, false, false, false, false, false, false, false, false, false, false, false, false, false, false, false, false, true, true, true, false, true, false, true, false, true, true, true, false, false, false, true, false, true, true, false, true, true, false, true, true, true, false, true] rfl
set_option maxRecDepth 100000 in
theorem lt_gc_14 : ∀ w ∈ gc_14, w ∈ lw_tbl := slm_in 535 [true, false, true, false, true, false, true, false, true, false, true, false, true, false, true, false, true, false, false, true, false, true, false, true, true, true, false, true, true, true, false, true, false, true, true] rfl
set_option maxRecDepth 100000 in
theorem lt_gc_15 : ∀ w ∈ gc_15, w ∈ lw_tbl := slm_in 570 [true, false, true, true, true, false, true, true, false, true, true, false, true, false, true, true, false, true, true, false, true, true, false, true, true, false, true, true, true] rfl
set_option maxRecDepth 100000 in
theorem lt_gc_16 : ∀ w ∈ gc_16, w ∈ lw_tbl := slm_in 600 [true, false, true, false, true, false, true, false, true, false, true, false, true, false, true, false, true, false, false, true, false, true, false, false, false, false, false, true, false, false, true, false, true, false, false, false, false, false, false, false, true, false, true, false, false, true, false, false, false, true, false, true, false, false, false, true] rfl
set_option maxRecDepth 100000 in
theorem lt_gc_17 : ∀ w ∈ gc_17, w ∈ lw_tbl := slm_in 657 [true, true, true, true, false, true, true, true, false, false, false, true, false, false, false, true, false, true, false, true, false, true, true, false, true, true, false, true, false, true, true, true, true] rfl
set_option maxRecDepth 100000 in
theorem lt_gc_18 : ∀ w ∈ gc_18, w ∈ lw_tbl := slm_in 691 [true, false, false, true, false, false, false, true, false, true, true, true, false, true, true, true, false, false, false, true, false, true, true, true, true, false, false, false, true, false, true, true, true, false, false, false, true, false, true] rfl
set_option maxRecDepth 100000 in
theorem lt_gc_19 : ∀ w ∈ gc_19, w ∈ lw_tbl := slm_in 730 [true, true, false, false, false, true, false, true, false, true, false, false, false, true, false, true, true, true, true, false, true, true, true, false, true, true, true, false, false, false, true, false, true, false, true, false, true] rfl
set_option maxRecDepth 100000 in
theorem lt_gc_20 : ∀ w ∈ gc_20, w ∈ lw_tbl := slm_in 767 [true, false, false, false, true, false, true, true, true, false, true, true, false, false, false, true, false, false, false, true, false, true, true, true, false, false, false, true, false, false, false, true, false, true, true, true, false, true, true, true] rfl
set_option maxRecDepth 100000 in
theorem lt_gc_21 : ∀ w ∈ gc_21, w ∈ lw_tbl := slm_in 808 [true, true, true, true, false, true, true, false, true, true, true, true, false, true, true, true, false, true, true, false, true, false, true, false, true, false, true, false, true] rfl
set_option maxRecDepth 100000 in
theorem lt_gc_22 : ∀ w ∈ gc_22, w ∈ lw_tbl := slm_in 838 [true, false, false, false, true, false, true, false, true, false, true, true, true, false, true, false, true, false, true, false, true, true, false, true, false, true, false, true, false, true, true, false, true, false, false, false, true, false, true] rfl
set_option maxRecDepth 100000 in
theorem lt_gc_23 : ∀ w ∈ gc_23, w ∈ lw_tbl := slm_in 878 [true, false, true, false, true, false, true, false, true, true, false, true, false, false, false, true, false, false, false, true, false, true, false, true, true, false, true, false, true, false, true, false, true, true, false, true, false, true, false, true] rfl
set_option maxRecDepth 100000 in
theorem lt_gc_24 : ∀ w ∈ gc_24, w ∈ lw_tbl := slm_in 919 [true, false, true, false, false, false, true, false, true, true, true, false, true, true, true, false, false, true, false, false, true, false, true, true, true, false, true, true, true, false, false, false, true, false, true, true] rfl
set_option maxRecDepth 100000 in
theorem lt_gc_25 : ∀ w ∈ gc_25, w ∈ lw_tbl := slm_in 955 [true, false, false, false, true, false, false, true, false, false, false, true, false, true, false, false, true, false, true, false, true, true, true, false, true, true, true, false, true, true, true, false, false, true, true, true, false, false, false, true] rfl
set_option maxRecDepth 100000 in
theorem lt_gc_26 : ∀ w ∈ gc_26, w ∈ lw_tbl := slm_in 999 [true, true, false, true, false, true, false, true, false, true, true, true, false, false, false, true, false, true, false, true, false, true, false, false, true, true, false, true, true, false, true, true, false, true, false, true] rfl
set_option maxRecDepth 100000 in
theorem lt_gc_27 : ∀ w ∈ gc_27, w ∈ lw_tbl := slm_in 1035 [true, true, false, true, true, true, false, true, true, true, true, false, true, false, true, false, true, false, true, false, false, false, true, false, false, false, true, false, true, false, true, true, false, false, false, false, true, false, true] rfl
set_option maxRecDepth 100000 in
theorem lt_gc_28 : ∀ w ∈ gc_28, w ∈ lw_tbl := slm_in 1074 [true, true, false, true, true, true, false, true, false, true, false, true, false, true, false, true, true, true, false, true, true, true, false, false, false, true, false, true, true, true, true] rfl
set_option maxRecDepth 100000 in
theorem lt_gc_29 : ∀ w ∈ gc_29, w ∈ lw_tbl := slm_in 1106 [true, true, true, false, true, true, true, false, false, true, false, true, true, false, true, false, true, true, true, false, true, true, true, false, true, true, true, false, true] rfl
set_option maxRecDepth 100000 in
theorem lt_gc_30 : ∀ w ∈ gc_30, w ∈ lw_tbl := slm_in 1135 [true, true, false, true, true, true, true, false, true, true, true, false, true, true, false, true, true, true, true, true, true, true, true, true] rfl
set_option maxRecDepth 100000 in
theorem lt_gc_31 : ∀ w ∈ gc_31, w ∈ lw_tbl := slm_in 1159 [true, true, true, true, true, true, true, true, true, true, true, true, true, true, true, true, true, true, true, true] rfl
set_option maxRecDepth 100000 in
theorem lt_gc_32 : ∀ w ∈ gc_32, w ∈ lw_tbl := slm_in 1179 [true, true, true, true, true, true, true, true, false, false, false, false, false, false, false, false, false, false, false, false, false, false, false, false, false, false, false, false, false, false, false, false, false, false, false, false, false, false, false, false, false, false, false, false, false, false, false, false, false, false, false, false, false, false, false, false, false, false, false, false, false, false, false, false, false, false, false, false, false, false, false, false, false, false, false, false, false, false, false, false, false, false, false, true, true, true, false, true, true, true, false, true, true, false, true, false, true, false, true, false, true] rfl
set_option maxRecDepth 100000 in
theorem lt_gc_33 : ∀ w ∈ gc_33, w ∈ lw_tbl := slm_in 1281 [true, true, false, true, false, true, false, false, true, true, true, true, false, true, false, true, false, true, false, true, false, true, false, true, false, true, false, true, false, true, false, true, false, true, false, true] rfl
set_option maxRecDepth 100000 in
theorem lt_gc_34 : ∀ w ∈ gc_34, w ∈ lw_tbl := slm_in 1318 [true, false, true, false, true, false, true, false, true, false, true, false, true, true, true, false, true, true, true, false, true, false, true, false, true, true, false, true, false, true, false, true, false, true] rfl
set_option maxRecDepth 100000 in
theorem lt_gc_35 : ∀ w ∈ gc_35, w ∈ lw_tbl := slm_in 1353 [true, false, true, true, false, true, false, true, false, true, true, true, false, true, true, false, true, false, true, false, true, false, true, true, true, false, true, true, true, false, true] rfl
set_option maxRecDepth 100000 in
theorem lt_gc_36 : ∀ w ∈ gc_36, w ∈ lw_tbl := slm_in 1385 [true, false, true, true, true, false, true, true, true, false, true, true, true, false, true, false, true, false, true, true, true, false, true, true, true, true, false, true] rfl
set_option maxRecDepth 100000 in
theorem lt_gc_37 : ∀ w ∈ gc_37, w ∈ lw_tbl := slm_in 1413 [true, true, false, true, false, true, false, true, true, true, false, true, false, true, false, true, true, true, false, true, false, true, false, true, false, true, false, true, false, true, false, true, true] rfl
set_option maxRecDepth 100000 in
theorem lt_gc_38 : ∀ w ∈ gc_38, w ∈ lw_tbl := slm_in 1446 [true, false, true, true, true, false, true, true, true, true, false, true, true, false, true, false, true, true, true, true, false, true, true, true, false, true, false, true] rfl
set_option maxRecDepth 100000 in
theorem lt_gc_39 : ∀ w ∈ gc_39, w ∈ lw_tbl := slm_in 1475 [true, true, true, true, false, true, false, true, false, true, false, true, false, true, false, true, false, true, false, true, false, true, false, true, true, true, false, true, true, true, false, true] rfl
set_option maxRecDepth 100000 in
theorem lt_gc_40 : ∀ w ∈ gc_40, w ∈ lw_tbl := slm_in 1507 [true, true, false, true, true, true, false, true, true, true, false, true, true, true, false, true, true, true, true, false, true, true, true, true, false, true] rfl
set_option maxRecDepth 100000 in
theorem lt_gc_41 : ∀ w ∈ gc_41, w ∈ lw_tbl := slm_in 1533 [true, true, false, true, false, true, false, true, false, true, false, true, true, true, false, true, false, true, false, true, true, false, true, true, true, false, true, true, true, false, true] rfl
set_option maxRecDepth 100000 in
theorem lt_gc_42 : ∀ w ∈ gc_42, w ∈ lw_tbl := slm_in 1565 [true, false, true, false, true, false, true, true, true, false, true, true, true, false, true, false, true, false, true, false, true, false, true, true, true, false, true, false, true, false, true, true] rfl
set_option maxRecDepth 100000 in
theorem lt_gc_43 : ∀ w ∈ gc_43, w ∈ lw_tbl := slm_in 1597 [true, false, true, true, true, true, false, true, true, true, true, true, false, true, true, true, false, true, true, true, false, true, true, true, false, true] rfl
set_option maxRecDepth 100000 in
theorem lt_gc_44 : ∀ w ∈ gc_44, w ∈ lw_tbl := slm_in 1623 [true, true, false, true, false, true, false, true, true, true] rfl
set_option maxRecDepth 100000 in
theorem lt_gc_45 : ∀ w ∈ gc_45, w ∈ lw_tbl := slm_in 143 [true, false, false, true, false, false, false, false, true, false, false, false, false, false, true, false, false, false, false, true, false, false, true, false, false, false, false, false, false, false, false, false, false, false, false, false, false, false, false, false, false, false, false, false, false, false, false, false, false, false, false, false, false, false, false, false, false, false, false, false, false, false, false, false, false, false, false, false, false, false, false, false, false, false, false, false, false, false, false, false, false, false, false, false, false, false, false, false, false, false, false, false, false, false, false, false, false, false, false, false, false, false, false, false, false, false, false, false, false, false, false, false, false, false, false, false, false, false, false, false, false, false, false, false, false, false, false, false, false, false, false, false, false, false, false, false, false, false, false, false, false, false, false, false, false, false, false, false, false, true, false, false, false, false, false, false, false, false, false, false, false, false, false, false, false, false, false, false, false, false, false, false, false, false, false, false, false, false, false, false, false, false, false, false, false, false, false, false, false, false, false, false, false, false, false, false, false, false, false, true, false, false, false, false, false, false, false, false, false, false, false, false, false, false, false, false, false, false, false, false, false, false, false, false, false, false, false, false, false, false, false, false, false, false, false, false, false, false, false, false, false, false, false, false, false, false, false, true, false, false, false, false, false, false, false, false, false, false, false, false, false, false, false, false, false, false, false, false, false, false, true, false, false, false, false, false, false, false, false, false, false, false, false, false, false, false, false, false, false, false, false, false, false, false, true, false, false, false, false, false, false, false, false, false, false, false, true] rfl
set_option maxRecDepth 100000 in
theorem lt_gc_46 : ∀ w ∈ gc_46, w ∈ lw_tbl := slm_in 510 [true, false, false, false, true, false, false, false, true, false, false, false, true, false, false, true, false, false, true, false, false, false, false, false, false, false, true, false, false, false, true, false, false, false, true, false, false, false, true, false, false, false, true, false, false, false, false, true] rfl
set_option maxRecDepth 100000 in
theorem lt_gc_47 : ∀ w ∈ gc_47, w ∈ lw_tbl := slm_in 561 [true, false, false, false, true, false, false, false, false, false, true, false, false, false, true, false, false, true, false, false, true, false, false, false, false, true, false, false, false, false, false, false, false, false, false, false, false, false, false, false, false, false, false, false, false, false, false, false, true, false, false, false, true, false, false, false, true, false, false, false, false, true, false, false, false, false, false, true] rfl
set_option maxRecDepth 100000 in
theorem lt_gc_48 : ∀ w ∈ gc_48, w ∈ lw_tbl := slm_in 633 [true, false, false, false, false, false, false, false, false, false, true, false, false, true, false, false, false, false, false, true, false, false, false, true, false, false, false, false, true, false, false, false, true, false, false, false, true, false, false, false, true, false, false, false, true, false, false, true, false, false, false, false, true] rfl
set_option maxRecDepth 100000 in
theorem lt_gc_49 : ∀ w ∈ gc_49, w ∈ lw_tbl := slm_in 690 [true, false, false, false, false, true, false, false, false, true, false, false, false, true, false, false, false, true, false, false, false, true, false, false, false, false, true, false, false, false, true, false, false, false, true, false, false, false, true, false, false, false, true, false, false, false, true] rfl
set_option maxRecDepth 100000 in
theorem lt_gc_50 : ∀ w ∈ gc_50, w ∈ lw_tbl := slm_in 740 [true, false, false, false, true, false, false, false, false, true, false, false, false, true, false, false, false, true, false, false, false, true, false, false, false, true, false, false, false, false, false, false, true, false, false, false, true, false, false, true, false, false, false, true, false, false, false, true] rfl
set_option maxRecDepth 100000 in
theorem lt_gc_51 : ∀ w ∈ gc_51, w ∈ lw_tbl := slm_in 795 [true, false, false, false, true, false, false, false, true, false, false, false, true, false, false, false, false, true, false, false, true, false, false, false, false, true, false, false, false, true, false, false, true, false, false, false, true, false, false, false, true, false, false, false, true] rfl
set_option maxRecDepth 100000 in
theorem lt_gc_52 : ∀ w ∈ gc_52, w ∈ lw_tbl := slm_in 843 [true, false, false, false, true, false, false, false, false, false, true, false, false, false, true, false, false, false, false, true, false, false, false, true, false, false, false, false, true, false, false, false, true, false, false, false, true, false, false, false, true, false, false, false, false, false, false, true, false, false, false, true] rfl
set_option maxRecDepth 100000 in
theorem lt_gc_53 : ∀ w ∈ gc_53, w ∈ lw_tbl := slm_in 900 [true, false, false, false, false, true, false, false, false, true, false, false, false, false, true, false, false, false, true, false, false, false, true, false, false, false, true, false, false, false, true, false, false, false, true, false, false, true, false, false, true, false, false, false, true] rfl
set_option maxRecDepth 100000 in
theorem lt_gc_54 : ∀ w ∈ gc_54, w ∈ lw_tbl := slm_in 948 [true, false, false, false, true, false, false, false, true, false, false, false, true, false, false, false, false, false, false, false, false, true, false, false, false, false, true, false, false, false, true, false, false, false, true, false, false, false, true, false, false, false, false, true, false, false, false, true, false, false, false, false, false, true] rfl
set_option maxRecDepth 100000 in
theorem lt_gc_55 : ∀ w ∈ gc_55, w ∈ lw_tbl := slm_in 1007 [true, false, false, false, true, false, false, false, true, false, false, false, true, false, false, false, false, false, true, false, false, true, false, false, false, false, true, false, false, false, true, false, false, false, true, false, false, false, false, true, false, false, false, true, false, false, false, true] rfl
set_option maxRecDepth 100000 in
theorem lt_gc_56 : ∀ w ∈ gc_56, w ∈ lw_tbl := slm_in 1058 [true, false, false, false, true, false, false, false, false, true, false, false, false, false, true, false, false, false, true, false, false, false, true, false, false, false, true, false, false, false, true, false, false, false, true, false, false, false, true, false, false, false, true, false, false, false, false, true] rfl
set_option maxRecDepth 100000 in
theorem lt_gc_57 : ∀ w ∈ gc_57, w ∈ lw_tbl := slm_in 1109 [true, false, false, false, false, false, false, true, false, false, false, false, true, false, false, false, true, false, false, false, true, false, false, false, true, false, false, false, true, false, false, false, false, true, false, false, false, true, false, false, true, false, false, false, false, false, false, false, false, false, false, false, false, false, false, false, false, false, false, false, false, false, false, false, false, false, false, false, false, false, false, false, false, false, false, false, false, false, false, false, false, false, false, false, false, false, false, false, false, false, false, false, false, false, false, false, false, false, false, false, false, false, false, false, false, false, false, false, false, false, false, false, false, false, false, false, false, false, false, false, false, false, false, false, false, false, false, false, false, false, false, false, false, false, false, false, false, false, false, false, false, false, false, false, false, false, false, false, false, false, false, false, false, false, false, false, true, false, false, false, true] rfl
set_option maxRecDepth 100000 in
theorem lt_gc_58 : ∀ w ∈ gc_58, w ∈ lw_tbl := slm_in 1272 [true, false, false, false, true, false, false, false, true, false, false, true, false, false, false, true, false, false, false, false, false, true, false, false, false, true, false, false, false, true, false, false, false, true, false, false, false, true, false, false, false, true, false, false, false, true] rfl
set_option maxRecDepth 100000 in
theorem lt_gc_59 : ∀ w ∈ gc_59, w ∈ lw_tbl := slm_in 1321 [true, false, false, false, true, false, false, false, true, false, false, false, true, false, false, false, true, false, false, false, true, false, false, false, false, true, false, false, false, true, false, false, false, true, false, false, true, false, false, false, true, false, false, false, true] rfl
set_option maxRecDepth 100000 in
theorem lt_gc_60 : ∀ w ∈ gc_60, w ∈ lw_tbl := slm_in 1370 [true, false, false, false, true, false, false, false, true, false, false, false, true, false, false, false, true, false, false, false, true, false, false, false, true, false, false, false, true, false, false, false, true, false, false, false, true, false, false, false, false, true, false, false, false, true] rfl
set_option maxRecDepth 100000 in
theorem lt_gc_61 : ∀ w ∈ gc_61, w ∈ lw_tbl := slm_in 1419 [true, false, false, false, true, false, false, false, true, false, false, false, true, false, false, false, true, false, false, false, true, false, false, false, true, false, false, false, true, false, false, false, true, false, false, false, false, true, false, false, false, false, true, false, false, false, false, true] rfl
set_option maxRecDepth 100000 in
theorem lt_gc_62 : ∀ w ∈ gc_62, w ∈ lw_tbl := slm_in 1470 [true, false, false, false, true, false, false, false, false, false, false, true, false, false, false, true, false, false, false, true, false, false, false, true, false, false, false, true, false, false, false, true, false, false, false, true, false, false, false, true, false, false, false, true, false, false, false, true] rfl
set_option maxRecDepth 100000 in
theorem lt_gc_63 : ∀ w ∈ gc_63, w ∈ lw_tbl := slm_in 1521 [true, false, false, false, false, true, false, false, false, false, true, false, false, false, true, false, false, false, true, false, false, false, true, false, false, false, true, false, false, false, true, false, false, true, false, false, false, true, false, false, false, true, false, false, false, true] rfl
set_option maxRecDepth 100000 in
theorem lt_gc_64 : ∀ w ∈ gc_64, w ∈ lw_tbl := slm_in 1570 [true, false, false, false, true, false, false, false, true, false, false, false, true, false, false, false, true, false, false, false, true, false, false, false, true, false, false, false, true, false, false, false, false, true, false, false, false, false, false, true, false, false, false, true, false, false, false, true] rfl
set_option maxRecDepth 100000 in
theorem lt_gc_65 : ∀ w ∈ gc_65, w ∈ lw_tbl := slm_in 1621 [true, false, false, false, true, false, false, false, true] rfl
theorem gw_in : ∀ w ∈ gw_T, w ∈ lw_tbl := List.forall_mem_append.mpr ⟨lt_gl_0, List.forall_mem_append.mpr ⟨lt_gl_1, List.forall_mem_append.mpr ⟨lt_gl_2, List.forall_mem_append.mpr ⟨lt_gl_3, List.forall_mem_append.mpr ⟨lt_gl_4, List.forall_mem_append.mpr ⟨lt_gl_5, List.forall_mem_append.mpr ⟨lt_gl_6, List.forall_mem_append.mpr ⟨lt_gl_7, List.forall_mem_append.mpr ⟨lt_gl_8, List.forall_mem_append.mpr ⟨lt_gl_9, List.forall_mem_append.mpr ⟨lt_gc_0, List.forall_mem_append.mpr ⟨lt_gc_1, List.forall_mem_append.mpr ⟨lt_gc_2, List.forall_mem_append.mpr ⟨lt_gc_3, List.forall_mem_append.mpr ⟨lt_gc_4, List.forall_mem_append.mpr ⟨lt_gc_5, List.forall_mem_append.mpr ⟨lt_gc_6, List.forall_mem_append.mpr ⟨lt_gc_7, List.forall_mem_append.mpr ⟨lt_gc_8, List.forall_mem_append.mpr ⟨lt_gc_9, List.forall_mem_append.mpr ⟨lt_gc_10, List.forall_mem_append.mpr ⟨lt_gc_11, List.forall_mem_append.mpr ⟨lt_gc_12, List.forall_mem_append.mpr ⟨lt_gc_13, List.forall_mem_append.mpr ⟨lt_gc_14, List.forall_mem_append.mpr ⟨lt_gc_15, List.forall_mem_append.mpr ⟨lt_gc_16, List.forall_mem_append.mpr ⟨lt_gc_17, List.forall_mem_append.mpr ⟨lt_gc_18, List.forall_mem_append.mpr ⟨lt_gc_19, List.forall_mem_append.mpr ⟨lt_gc_20, List.forall_mem_append.mpr ⟨lt_gc_21, List.forall_mem_append.mpr ⟨lt_gc_22, List.forall_mem_append.mpr ⟨lt_gc_23, List.forall_mem_append.mpr ⟨lt_gc_24, List.forall_mem_append.mpr ⟨lt_gc_25, List.forall_mem_append.mpr ⟨lt_gc_26, List.forall_mem_append.mpr ⟨lt_gc_27, List.forall_mem_append.mpr ⟨lt_gc_28, List.forall_mem_append.mpr ⟨lt_gc_29, List.forall_mem_append.mpr ⟨lt_gc_30, List.forall_mem_append.mpr ⟨lt_gc_31, List.forall_mem_append.mpr ⟨lt_gc_32, List.forall_mem_append.mpr ⟨lt_gc_33, List.forall_mem_append.mpr ⟨lt_gc_34, List.forall_mem_append.mpr ⟨lt_gc_35, List.forall_mem_append.mpr ⟨lt_gc_36, List.forall_mem_append.mpr ⟨lt_gc_37, List.forall_mem_append.mpr ⟨lt_gc_38, List.forall_mem_append.mpr ⟨lt_gc_39, List.forall_mem_append.mpr ⟨lt_gc_40, List.forall_mem_append.mpr ⟨lt_gc_41, List.forall_mem_append.mpr ⟨lt_gc_42, List.forall_mem_append.mpr ⟨lt_gc_43, List.forall_mem_append.mpr ⟨lt_gc_44, List.forall_mem_append.mpr ⟨lt_gc_45, List.forall_mem_append.mpr ⟨lt_gc_46, List.forall_mem_append.mpr ⟨lt_gc_47, List.forall_mem_append.mpr ⟨lt_gc_48, List.forall_mem_append.mpr ⟨lt_gc_49, List.forall_mem_append.mpr ⟨lt_gc_50, List.forall_mem_append.mpr ⟨lt_gc_51, List.forall_mem_append.mpr ⟨lt_gc_52, List.forall_mem_append.mpr ⟨lt_gc_53, List.forall_mem_append.mpr ⟨lt_gc_54, List.forall_mem_append.mpr ⟨lt_gc_55, List.forall_mem_append.mpr ⟨lt_gc_56, List.forall_mem_append.mpr ⟨lt_gc_57, List.forall_mem_append.mpr ⟨lt_gc_58, List.forall_mem_append.mpr ⟨lt_gc_59, List.forall_mem_append.mpr ⟨lt_gc_60, List.forall_mem_append.mpr ⟨lt_gc_61, List.forall_mem_append.mpr ⟨lt_gc_62, List.forall_mem_append.mpr ⟨lt_gc_63, List.forall_mem_append.mpr ⟨lt_gc_64, lt_gc_65⟩⟩⟩⟩⟩⟩⟩⟩⟩⟩⟩⟩⟩⟩⟩⟩⟩⟩⟩⟩⟩⟩⟩⟩⟩⟩⟩⟩⟩⟩⟩⟩⟩⟩⟩⟩⟩⟩⟩⟩⟩⟩⟩⟩⟩⟩⟩⟩⟩⟩⟩⟩⟩⟩⟩⟩⟩⟩⟩⟩⟩⟩⟩⟩⟩⟩⟩⟩⟩⟩⟩⟩⟩⟩⟩
def gn_T : List Cond := [Cond.methodLinkNest RX8 19 yX6_init RX8, Cond.methodLinkNest RX6 11 yX3_init RX8, Cond.fieldLinkNest RX2 50 "RopeMoon$Plain" "strips" "I" RX8, Cond.fieldLinkNest RX0 28 "RopeMoon$Plain" "strips" "I" RX8, Cond.fieldLinkNest RX5 67 "RopeMoon$Plain" "strips" "I" RX8, Cond.fieldLinkNest RX1 62 "RopeMoon$Plain" "strips" "I" RX8, Cond.fieldLinkNest RX6 103 "RopeMoon$Plain" "strips" "I" RX8, Cond.fieldLinkNest RX8 161 "RopeMoon$Plain" "strips" "I" RX8, Cond.fieldLinkNest RX8 99 "RopeMoon$Plain" "lines" "I" RX8, Cond.fieldLinkNest RX6 151 "RopeMoon$Plain" "lines" "I" RX8, Cond.fieldLinkNest RX8 216 "RopeMoon$Plain" "minute" "I" RX8, Cond.fieldLinkNest RX6 128 "RopeMoon$Plain" "at" "I" RX8, Cond.fieldLinkNest RX8 128 "RopeMoon$Plain" "at" "I" RX8, Cond.fieldLinkNest RX6 132 "RopeMoon$Plain" "rope" "I" RX8, Cond.fieldLinkNest RX8 167 "RopeMoon$Plain" "rope" "I" RX8, Cond.fieldLinkNest RX6 137 "RopeMoon$Plain" "power" "I" RX8, Cond.fieldLinkNest RX8 340 "RopeMoon$Plain" "power" "I" RX8, Cond.fieldLinkNest RX6 141 "RopeMoon$Plain" "fade" "I" RX8, Cond.fieldLinkNest RX8 343 "RopeMoon$Plain" "fade" "I" RX8, Cond.fieldLinkNest RX6 90 "RopeMoon$Plain" "oil" "I" RX8, Cond.fieldLinkNest RX8 208 "RopeMoon$Plain" "oil" "I" RX8, Cond.fieldLinkNest RX6 99 "RopeMoon$Plain" "moths" "I" RX8, Cond.fieldLinkNest RX8 222 "RopeMoon$Plain" "moths" "I" RX8, Cond.fieldLinkNest RX6 106 "RopeMoon$Plain" "crossing" "I" RX8, Cond.fieldLinkNest RX8 346 "RopeMoon$Plain" "crossing" "I" RX8, Cond.fieldLinkNest RX1 73 "RopeMoon$Plain" "crops" "[I" RX8, Cond.fieldLinkNest RX2 68 "RopeMoon$Plain" "crops" "[I" RX8, Cond.fieldLinkNest RX8 112 "RopeMoon$Plain" "crops" "[I" RX8, Cond.fieldLinkNest RX2 79 "RopeMoon$Plain" "reapers" "[I" RX8, Cond.fieldLinkNest RX8 116 "RopeMoon$Plain" "reapers" "[I" RX8, Cond.fieldLinkNest RX8 119 "RopeMoon$Plain" "trees" "[I" RX8, Cond.fieldLinkNest RX2 53 "RopeMoon$Plain" "farms" "[I" RX8, Cond.fieldLinkNest RX8 122 "RopeMoon$Plain" "farms" "[I" RX8, Cond.fieldLinkNest RX8 125 "RopeMoon$Plain" "reaped" "[I" RX8, Cond.fieldLinkNest RX2 76 "RopeMoon$Plain" "bids" "[I" RX8, Cond.fieldLinkNest RX6 147 "RopeMoon$Plain" "bids" "[I" RX8, Cond.fieldLinkNest RX8 142 "RopeMoon$Plain" "bids" "[I" RX8, Cond.fieldLinkNest RX8 92 "RopeMoon$TextReader" "told" "LRopeMoon$Plain;" RX8, Cond.fieldLinkNest RX8 102 "RopeMoon$TextReader" "faultKind" "I" RX8, Cond.fieldLinkNest RX8 105 "RopeMoon$TextReader" "faultPlace" "I" RX8, Cond.methodLinkNest RX8 26 yX3_init RX8, Cond.methodLinkNest RX8 50 yX7_init RX8, Cond.fieldLinkNest RX1 41 "RopeMoon$Walks" "hangs" "[J" RX8, Cond.fieldLinkNest RX5 51 "RopeMoon$Walks" "hangs" "[J" RX8, Cond.fieldLinkNest RX2 100 "RopeMoon$Walks" "hangs" "[J" RX8, Cond.fieldLinkNest RX8 253 "RopeMoon$Walks" "hangs" "[J" RX8, Cond.fieldLinkNest RX1 95 "RopeMoon$Walks" "ways" "[I" RX8, Cond.fieldLinkNest RX1 37 "RopeMoon$Walks" "twin" "[Z" RX8, Cond.fieldLinkNest RX5 47 "RopeMoon$Walks" "twin" "[Z" RX8, Cond.fieldLinkNest RX2 96 "RopeMoon$Walks" "twin" "[Z" RX8, Cond.methodLinkNest RX8 57 yX2_init RX8, Cond.methodLinkNest RX2 11 yX3_init RX8, Cond.fieldLinkNest RX5 63 "RopeMoon$Harvest" "over" "LRopeMoon$Plain;" RX8, Cond.fieldLinkNest RX1 58 "RopeMoon$Harvest" "over" "LRopeMoon$Plain;" RX8, Cond.fieldLinkNest RX5 73 "RopeMoon$Harvest" "caps" "[I" RX8, Cond.fieldLinkNest RX1 77 "RopeMoon$Harvest" "caps" "[I" RX8, Cond.fieldLinkNest RX8 240 "RopeMoon$Harvest" "bestScore" "I" RX8, Cond.fieldLinkNest RX8 257 "RopeMoon$Harvest" "bestState" "I" RX8, Cond.methodLinkNest RX8 64 yX5_init RX8, Cond.fieldLinkNest RX8 270 "RopeMoon$Shifts" "mostSheaves" "[I" RX8, Cond.methodLinkNest RX8 71 yX1_init RX8, Cond.fieldLinkNest RX8 313 "RopeMoon$Ends" "explained" "I" RX8, Cond.fieldLinkNest RX8 316 "RopeMoon$Ends" "sureStrips" "I" RX8, Cond.methodLinkNest RX8 78 yX0_init RX8, Cond.methodLinkNest RX8 83 yX4_init RX8, Cond.fieldLinkNest RX8 185 "RopeMoon$Row" "missing" "Z" RX8, Cond.fieldLinkNest RX8 193 "RopeMoon$Row" "size" "I" RX8, Cond.fieldLinkNest RX3 116 "RopeMoon$Row" "size" "I" RX8, Cond.methodLinkNest RX8 88 yX6_readText RX8, Cond.methodLinkNest RX6 59 yX3_empty RX8, Cond.methodLinkNest RX6 122 yX3_addStrip RX8, Cond.methodLinkNest RX6 143 yX8_isFarm RX8, Cond.methodLinkNest RX8 95 yX3_become RX8, Cond.methodLinkNest RX8 108 yX3_hasStrip RX8, Cond.methodLinkNest RX8 131 yX3_lightOf RX8, Cond.methodLinkNest RX8 138 yX3_sumOfFarm RX8, Cond.methodLinkNest RX8 145 yX3_stripsOfFarm RX8, Cond.methodLinkNest RX8 149 yX3_litFrom RX8, Cond.methodLinkNest RX8 152 yX3_shadedFrom RX8, Cond.methodLinkNest RX8 155 yX3_leastHeight RX8, Cond.methodLinkNest RX8 158 yX3_areStrips RX8, Cond.methodLinkNest RX8 164 yX3_leastHeightForAll RX8, Cond.methodLinkNest RX8 170 yX3_whyNot RX8, Cond.methodLinkNest RX8 174 yX3_target RX8, Cond.methodLinkNest RX8 178 yX3_pass RX8, Cond.methodLinkNest RX8 189 yX3_passAll RX8, Cond.methodLinkNest RX3 121 yX4_valueAt RX8, Cond.methodLinkNest RX8 196 yX4_valueAt RX8, Cond.methodLinkNest RX8 200 yX3_sum RX8, Cond.methodLinkNest RX8 204 yX3_hangsOver RX8, Cond.methodLinkNest RX8 281 yX7_lay RX8, Cond.methodLinkNest RX8 273 yX2_prepare RX8, Cond.methodLinkNest RX2 85 yX3_lightOf RX8, Cond.methodLinkNest RX8 277 yX2_seekBest RX8, Cond.methodLinkNest RX2 88 yX7_end RX8, Cond.methodLinkNest RX2 93 yX7_first RX8, Cond.methodLinkNest RX8 350 yX7_moveOf RX8, Cond.methodLinkNest RX8 247 yX2_fewestIn RX8, Cond.methodLinkNest RX8 250 yX2_allIn RX8, Cond.methodLinkNest RX8 260 yX2_bidsOf RX8, Cond.methodLinkNest RX8 263 yX5_seekAll RX8, Cond.methodLinkNest RX5 27 yX2_fillCaps RX8, Cond.methodLinkNest RX5 38 yX7_end RX8, Cond.methodLinkNest RX5 44 yX7_first RX8, Cond.methodLinkNest RX5 55 yX2_open RX8, Cond.methodLinkNest RX5 76 yX2_cutOf RX8, Cond.methodLinkNest RX8 284 yX3_allStrips RX8, Cond.methodLinkNest RX8 287 yX1_countUnlike RX8, Cond.methodLinkNest RX1 28 yX7_end RX8, Cond.methodLinkNest RX1 34 yX7_first RX8, Cond.methodLinkNest RX1 44 yX2_open RX8, Cond.methodLinkNest RX1 80 yX2_cutOf RX8, Cond.methodLinkNest RX8 291 yX0_fewest RX8, Cond.methodLinkNest RX0 46 yX3_litFrom RX8, Cond.methodLinkNest RX0 22 yX3_allStrips RX8, Cond.methodLinkNest RX8 353 yX1_explainNothing RX8, Cond.methodLinkNest RX8 356 yX1_explain RX8, Cond.methodLinkNest RX1 87 yX3_allStrips RX8, Cond.methodLinkNest RX1 101 yX4_valueAt RX8, Cond.methodLinkNest RX1 98 yX2_stripsHungOver RX8, Cond.methodLinkNest RX8 326 yX4_renew RX8, Cond.methodLinkNest RX8 336 yX4_put RX8]
theorem ni_149 : Cond.methodLinkNest RX8 19 yX6_init RX8 ∈ gn_T := List.mem_of_getElem? (i := 0) rfl
theorem ni_155 : Cond.methodLinkNest RX6 11 yX3_init RX8 ∈ gn_T := List.mem_of_getElem? (i := 1) rfl
theorem ni_167 : Cond.fieldLinkNest RX2 50 "RopeMoon$Plain" "strips" "I" RX8 ∈ gn_T := List.mem_of_getElem? (i := 2) rfl
theorem ni_168 : Cond.fieldLinkNest RX0 28 "RopeMoon$Plain" "strips" "I" RX8 ∈ gn_T := List.mem_of_getElem? (i := 3) rfl
theorem ni_169 : Cond.fieldLinkNest RX5 67 "RopeMoon$Plain" "strips" "I" RX8 ∈ gn_T := List.mem_of_getElem? (i := 4) rfl
theorem ni_170 : Cond.fieldLinkNest RX1 62 "RopeMoon$Plain" "strips" "I" RX8 ∈ gn_T := List.mem_of_getElem? (i := 5) rfl
theorem ni_171 : Cond.fieldLinkNest RX6 103 "RopeMoon$Plain" "strips" "I" RX8 ∈ gn_T := List.mem_of_getElem? (i := 6) rfl
theorem ni_172 : Cond.fieldLinkNest RX8 161 "RopeMoon$Plain" "strips" "I" RX8 ∈ gn_T := List.mem_of_getElem? (i := 7) rfl
theorem ni_174 : Cond.fieldLinkNest RX8 99 "RopeMoon$Plain" "lines" "I" RX8 ∈ gn_T := List.mem_of_getElem? (i := 8) rfl
theorem ni_175 : Cond.fieldLinkNest RX6 151 "RopeMoon$Plain" "lines" "I" RX8 ∈ gn_T := List.mem_of_getElem? (i := 9) rfl
theorem ni_177 : Cond.fieldLinkNest RX8 216 "RopeMoon$Plain" "minute" "I" RX8 ∈ gn_T := List.mem_of_getElem? (i := 10) rfl
theorem ni_179 : Cond.fieldLinkNest RX6 128 "RopeMoon$Plain" "at" "I" RX8 ∈ gn_T := List.mem_of_getElem? (i := 11) rfl
theorem ni_180 : Cond.fieldLinkNest RX8 128 "RopeMoon$Plain" "at" "I" RX8 ∈ gn_T := List.mem_of_getElem? (i := 12) rfl
theorem ni_182 : Cond.fieldLinkNest RX6 132 "RopeMoon$Plain" "rope" "I" RX8 ∈ gn_T := List.mem_of_getElem? (i := 13) rfl
theorem ni_183 : Cond.fieldLinkNest RX8 167 "RopeMoon$Plain" "rope" "I" RX8 ∈ gn_T := List.mem_of_getElem? (i := 14) rfl
theorem ni_185 : Cond.fieldLinkNest RX6 137 "RopeMoon$Plain" "power" "I" RX8 ∈ gn_T := List.mem_of_getElem? (i := 15) rfl
theorem ni_186 : Cond.fieldLinkNest RX8 340 "RopeMoon$Plain" "power" "I" RX8 ∈ gn_T := List.mem_of_getElem? (i := 16) rfl
theorem ni_188 : Cond.fieldLinkNest RX6 141 "RopeMoon$Plain" "fade" "I" RX8 ∈ gn_T := List.mem_of_getElem? (i := 17) rfl
theorem ni_189 : Cond.fieldLinkNest RX8 343 "RopeMoon$Plain" "fade" "I" RX8 ∈ gn_T := List.mem_of_getElem? (i := 18) rfl
theorem ni_191 : Cond.fieldLinkNest RX6 90 "RopeMoon$Plain" "oil" "I" RX8 ∈ gn_T := List.mem_of_getElem? (i := 19) rfl
theorem ni_192 : Cond.fieldLinkNest RX8 208 "RopeMoon$Plain" "oil" "I" RX8 ∈ gn_T := List.mem_of_getElem? (i := 20) rfl
theorem ni_194 : Cond.fieldLinkNest RX6 99 "RopeMoon$Plain" "moths" "I" RX8 ∈ gn_T := List.mem_of_getElem? (i := 21) rfl
theorem ni_195 : Cond.fieldLinkNest RX8 222 "RopeMoon$Plain" "moths" "I" RX8 ∈ gn_T := List.mem_of_getElem? (i := 22) rfl
theorem ni_197 : Cond.fieldLinkNest RX6 106 "RopeMoon$Plain" "crossing" "I" RX8 ∈ gn_T := List.mem_of_getElem? (i := 23) rfl
theorem ni_198 : Cond.fieldLinkNest RX8 346 "RopeMoon$Plain" "crossing" "I" RX8 ∈ gn_T := List.mem_of_getElem? (i := 24) rfl
theorem ni_200 : Cond.fieldLinkNest RX1 73 "RopeMoon$Plain" "crops" "[I" RX8 ∈ gn_T := List.mem_of_getElem? (i := 25) rfl
theorem ni_201 : Cond.fieldLinkNest RX2 68 "RopeMoon$Plain" "crops" "[I" RX8 ∈ gn_T := List.mem_of_getElem? (i := 26) rfl
theorem ni_202 : Cond.fieldLinkNest RX8 112 "RopeMoon$Plain" "crops" "[I" RX8 ∈ gn_T := List.mem_of_getElem? (i := 27) rfl
theorem ni_204 : Cond.fieldLinkNest RX2 79 "RopeMoon$Plain" "reapers" "[I" RX8 ∈ gn_T := List.mem_of_getElem? (i := 28) rfl
theorem ni_205 : Cond.fieldLinkNest RX8 116 "RopeMoon$Plain" "reapers" "[I" RX8 ∈ gn_T := List.mem_of_getElem? (i := 29) rfl
theorem ni_207 : Cond.fieldLinkNest RX8 119 "RopeMoon$Plain" "trees" "[I" RX8 ∈ gn_T := List.mem_of_getElem? (i := 30) rfl
theorem ni_209 : Cond.fieldLinkNest RX2 53 "RopeMoon$Plain" "farms" "[I" RX8 ∈ gn_T := List.mem_of_getElem? (i := 31) rfl
theorem ni_210 : Cond.fieldLinkNest RX8 122 "RopeMoon$Plain" "farms" "[I" RX8 ∈ gn_T := List.mem_of_getElem? (i := 32) rfl
theorem ni_212 : Cond.fieldLinkNest RX8 125 "RopeMoon$Plain" "reaped" "[I" RX8 ∈ gn_T := List.mem_of_getElem? (i := 33) rfl
theorem ni_214 : Cond.fieldLinkNest RX2 76 "RopeMoon$Plain" "bids" "[I" RX8 ∈ gn_T := List.mem_of_getElem? (i := 34) rfl
theorem ni_215 : Cond.fieldLinkNest RX6 147 "RopeMoon$Plain" "bids" "[I" RX8 ∈ gn_T := List.mem_of_getElem? (i := 35) rfl
theorem ni_216 : Cond.fieldLinkNest RX8 142 "RopeMoon$Plain" "bids" "[I" RX8 ∈ gn_T := List.mem_of_getElem? (i := 36) rfl
theorem ni_253 : Cond.fieldLinkNest RX8 92 "RopeMoon$TextReader" "told" "LRopeMoon$Plain;" RX8 ∈ gn_T := List.mem_of_getElem? (i := 37) rfl
theorem ni_255 : Cond.fieldLinkNest RX8 102 "RopeMoon$TextReader" "faultKind" "I" RX8 ∈ gn_T := List.mem_of_getElem? (i := 38) rfl
theorem ni_257 : Cond.fieldLinkNest RX8 105 "RopeMoon$TextReader" "faultPlace" "I" RX8 ∈ gn_T := List.mem_of_getElem? (i := 39) rfl
theorem ni_284 : Cond.methodLinkNest RX8 26 yX3_init RX8 ∈ gn_T := List.mem_of_getElem? (i := 40) rfl
theorem ni_290 : Cond.methodLinkNest RX8 50 yX7_init RX8 ∈ gn_T := List.mem_of_getElem? (i := 41) rfl
theorem ni_295 : Cond.fieldLinkNest RX1 41 "RopeMoon$Walks" "hangs" "[J" RX8 ∈ gn_T := List.mem_of_getElem? (i := 42) rfl
theorem ni_296 : Cond.fieldLinkNest RX5 51 "RopeMoon$Walks" "hangs" "[J" RX8 ∈ gn_T := List.mem_of_getElem? (i := 43) rfl
theorem ni_297 : Cond.fieldLinkNest RX2 100 "RopeMoon$Walks" "hangs" "[J" RX8 ∈ gn_T := List.mem_of_getElem? (i := 44) rfl
theorem ni_298 : Cond.fieldLinkNest RX8 253 "RopeMoon$Walks" "hangs" "[J" RX8 ∈ gn_T := List.mem_of_getElem? (i := 45) rfl
theorem ni_301 : Cond.fieldLinkNest RX1 95 "RopeMoon$Walks" "ways" "[I" RX8 ∈ gn_T := List.mem_of_getElem? (i := 46) rfl
theorem ni_304 : Cond.fieldLinkNest RX1 37 "RopeMoon$Walks" "twin" "[Z" RX8 ∈ gn_T := List.mem_of_getElem? (i := 47) rfl
theorem ni_305 : Cond.fieldLinkNest RX5 47 "RopeMoon$Walks" "twin" "[Z" RX8 ∈ gn_T := List.mem_of_getElem? (i := 48) rfl
theorem ni_306 : Cond.fieldLinkNest RX2 96 "RopeMoon$Walks" "twin" "[Z" RX8 ∈ gn_T := List.mem_of_getElem? (i := 49) rfl
theorem ni_340 : Cond.methodLinkNest RX8 57 yX2_init RX8 ∈ gn_T := List.mem_of_getElem? (i := 50) rfl
theorem ni_345 : Cond.methodLinkNest RX2 11 yX3_init RX8 ∈ gn_T := List.mem_of_getElem? (i := 51) rfl
theorem ni_347 : Cond.fieldLinkNest RX5 63 "RopeMoon$Harvest" "over" "LRopeMoon$Plain;" RX8 ∈ gn_T := List.mem_of_getElem? (i := 52) rfl
theorem ni_348 : Cond.fieldLinkNest RX1 58 "RopeMoon$Harvest" "over" "LRopeMoon$Plain;" RX8 ∈ gn_T := List.mem_of_getElem? (i := 53) rfl
theorem ni_352 : Cond.fieldLinkNest RX5 73 "RopeMoon$Harvest" "caps" "[I" RX8 ∈ gn_T := List.mem_of_getElem? (i := 54) rfl
theorem ni_353 : Cond.fieldLinkNest RX1 77 "RopeMoon$Harvest" "caps" "[I" RX8 ∈ gn_T := List.mem_of_getElem? (i := 55) rfl
theorem ni_360 : Cond.fieldLinkNest RX8 240 "RopeMoon$Harvest" "bestScore" "I" RX8 ∈ gn_T := List.mem_of_getElem? (i := 56) rfl
theorem ni_362 : Cond.fieldLinkNest RX8 257 "RopeMoon$Harvest" "bestState" "I" RX8 ∈ gn_T := List.mem_of_getElem? (i := 57) rfl
theorem ni_388 : Cond.methodLinkNest RX8 64 yX5_init RX8 ∈ gn_T := List.mem_of_getElem? (i := 58) rfl
theorem ni_397 : Cond.fieldLinkNest RX8 270 "RopeMoon$Shifts" "mostSheaves" "[I" RX8 ∈ gn_T := List.mem_of_getElem? (i := 59) rfl
theorem ni_411 : Cond.methodLinkNest RX8 71 yX1_init RX8 ∈ gn_T := List.mem_of_getElem? (i := 60) rfl
theorem ni_419 : Cond.fieldLinkNest RX8 313 "RopeMoon$Ends" "explained" "I" RX8 ∈ gn_T := List.mem_of_getElem? (i := 61) rfl
theorem ni_421 : Cond.fieldLinkNest RX8 316 "RopeMoon$Ends" "sureStrips" "I" RX8 ∈ gn_T := List.mem_of_getElem? (i := 62) rfl
theorem ni_435 : Cond.methodLinkNest RX8 78 yX0_init RX8 ∈ gn_T := List.mem_of_getElem? (i := 63) rfl
theorem ni_447 : Cond.methodLinkNest RX8 83 yX4_init RX8 ∈ gn_T := List.mem_of_getElem? (i := 64) rfl
theorem ni_452 : Cond.fieldLinkNest RX8 185 "RopeMoon$Row" "missing" "Z" RX8 ∈ gn_T := List.mem_of_getElem? (i := 65) rfl
theorem ni_455 : Cond.fieldLinkNest RX8 193 "RopeMoon$Row" "size" "I" RX8 ∈ gn_T := List.mem_of_getElem? (i := 66) rfl
theorem ni_456 : Cond.fieldLinkNest RX3 116 "RopeMoon$Row" "size" "I" RX8 ∈ gn_T := List.mem_of_getElem? (i := 67) rfl
theorem ni_519 : Cond.methodLinkNest RX8 88 yX6_readText RX8 ∈ gn_T := List.mem_of_getElem? (i := 68) rfl
theorem ni_532 : Cond.methodLinkNest RX6 59 yX3_empty RX8 ∈ gn_T := List.mem_of_getElem? (i := 69) rfl
theorem ni_625 : Cond.methodLinkNest RX6 122 yX3_addStrip RX8 ∈ gn_T := List.mem_of_getElem? (i := 70) rfl
theorem ni_644 : Cond.methodLinkNest RX6 143 yX8_isFarm RX8 ∈ gn_T := List.mem_of_getElem? (i := 71) rfl
theorem ni_653 : Cond.methodLinkNest RX8 95 yX3_become RX8 ∈ gn_T := List.mem_of_getElem? (i := 72) rfl
theorem ni_666 : Cond.methodLinkNest RX8 108 yX3_hasStrip RX8 ∈ gn_T := List.mem_of_getElem? (i := 73) rfl
theorem ni_670 : Cond.methodLinkNest RX8 131 yX3_lightOf RX8 ∈ gn_T := List.mem_of_getElem? (i := 74) rfl
theorem ni_692 : Cond.methodLinkNest RX8 138 yX3_sumOfFarm RX8 ∈ gn_T := List.mem_of_getElem? (i := 75) rfl
theorem ni_696 : Cond.methodLinkNest RX8 145 yX3_stripsOfFarm RX8 ∈ gn_T := List.mem_of_getElem? (i := 76) rfl
theorem ni_708 : Cond.methodLinkNest RX8 149 yX3_litFrom RX8 ∈ gn_T := List.mem_of_getElem? (i := 77) rfl
theorem ni_717 : Cond.methodLinkNest RX8 152 yX3_shadedFrom RX8 ∈ gn_T := List.mem_of_getElem? (i := 78) rfl
theorem ni_725 : Cond.methodLinkNest RX8 155 yX3_leastHeight RX8 ∈ gn_T := List.mem_of_getElem? (i := 79) rfl
theorem ni_733 : Cond.methodLinkNest RX8 158 yX3_areStrips RX8 ∈ gn_T := List.mem_of_getElem? (i := 80) rfl
theorem ni_741 : Cond.methodLinkNest RX8 164 yX3_leastHeightForAll RX8 ∈ gn_T := List.mem_of_getElem? (i := 81) rfl
theorem ni_758 : Cond.methodLinkNest RX8 170 yX3_whyNot RX8 ∈ gn_T := List.mem_of_getElem? (i := 82) rfl
theorem ni_768 : Cond.methodLinkNest RX8 174 yX3_target RX8 ∈ gn_T := List.mem_of_getElem? (i := 83) rfl
theorem ni_769 : Cond.methodLinkNest RX8 178 yX3_pass RX8 ∈ gn_T := List.mem_of_getElem? (i := 84) rfl
theorem ni_780 : Cond.methodLinkNest RX8 189 yX3_passAll RX8 ∈ gn_T := List.mem_of_getElem? (i := 85) rfl
theorem ni_784 : Cond.methodLinkNest RX3 121 yX4_valueAt RX8 ∈ gn_T := List.mem_of_getElem? (i := 86) rfl
theorem ni_791 : Cond.methodLinkNest RX8 196 yX4_valueAt RX8 ∈ gn_T := List.mem_of_getElem? (i := 87) rfl
theorem ni_792 : Cond.methodLinkNest RX8 200 yX3_sum RX8 ∈ gn_T := List.mem_of_getElem? (i := 88) rfl
theorem ni_796 : Cond.methodLinkNest RX8 204 yX3_hangsOver RX8 ∈ gn_T := List.mem_of_getElem? (i := 89) rfl
theorem ni_840 : Cond.methodLinkNest RX8 281 yX7_lay RX8 ∈ gn_T := List.mem_of_getElem? (i := 90) rfl
theorem ni_872 : Cond.methodLinkNest RX8 273 yX2_prepare RX8 ∈ gn_T := List.mem_of_getElem? (i := 91) rfl
theorem ni_885 : Cond.methodLinkNest RX2 85 yX3_lightOf RX8 ∈ gn_T := List.mem_of_getElem? (i := 92) rfl
theorem ni_891 : Cond.methodLinkNest RX8 277 yX2_seekBest RX8 ∈ gn_T := List.mem_of_getElem? (i := 93) rfl
theorem ni_895 : Cond.methodLinkNest RX2 88 yX7_end RX8 ∈ gn_T := List.mem_of_getElem? (i := 94) rfl
theorem ni_896 : Cond.methodLinkNest RX2 93 yX7_first RX8 ∈ gn_T := List.mem_of_getElem? (i := 95) rfl
theorem ni_923 : Cond.methodLinkNest RX8 350 yX7_moveOf RX8 ∈ gn_T := List.mem_of_getElem? (i := 96) rfl
theorem ni_935 : Cond.methodLinkNest RX8 247 yX2_fewestIn RX8 ∈ gn_T := List.mem_of_getElem? (i := 97) rfl
theorem ni_938 : Cond.methodLinkNest RX8 250 yX2_allIn RX8 ∈ gn_T := List.mem_of_getElem? (i := 98) rfl
theorem ni_949 : Cond.methodLinkNest RX8 260 yX2_bidsOf RX8 ∈ gn_T := List.mem_of_getElem? (i := 99) rfl
theorem ni_957 : Cond.methodLinkNest RX8 263 yX5_seekAll RX8 ∈ gn_T := List.mem_of_getElem? (i := 100) rfl
theorem ni_961 : Cond.methodLinkNest RX5 27 yX2_fillCaps RX8 ∈ gn_T := List.mem_of_getElem? (i := 101) rfl
theorem ni_963 : Cond.methodLinkNest RX5 38 yX7_end RX8 ∈ gn_T := List.mem_of_getElem? (i := 102) rfl
theorem ni_964 : Cond.methodLinkNest RX5 44 yX7_first RX8 ∈ gn_T := List.mem_of_getElem? (i := 103) rfl
theorem ni_965 : Cond.methodLinkNest RX5 55 yX2_open RX8 ∈ gn_T := List.mem_of_getElem? (i := 104) rfl
theorem ni_970 : Cond.methodLinkNest RX5 76 yX2_cutOf RX8 ∈ gn_T := List.mem_of_getElem? (i := 105) rfl
theorem ni_987 : Cond.methodLinkNest RX8 284 yX3_allStrips RX8 ∈ gn_T := List.mem_of_getElem? (i := 106) rfl
theorem ni_992 : Cond.methodLinkNest RX8 287 yX1_countUnlike RX8 ∈ gn_T := List.mem_of_getElem? (i := 107) rfl
theorem ni_996 : Cond.methodLinkNest RX1 28 yX7_end RX8 ∈ gn_T := List.mem_of_getElem? (i := 108) rfl
theorem ni_997 : Cond.methodLinkNest RX1 34 yX7_first RX8 ∈ gn_T := List.mem_of_getElem? (i := 109) rfl
theorem ni_998 : Cond.methodLinkNest RX1 44 yX2_open RX8 ∈ gn_T := List.mem_of_getElem? (i := 110) rfl
theorem ni_1003 : Cond.methodLinkNest RX1 80 yX2_cutOf RX8 ∈ gn_T := List.mem_of_getElem? (i := 111) rfl
theorem ni_1012 : Cond.methodLinkNest RX8 291 yX0_fewest RX8 ∈ gn_T := List.mem_of_getElem? (i := 112) rfl
theorem ni_1021 : Cond.methodLinkNest RX0 46 yX3_litFrom RX8 ∈ gn_T := List.mem_of_getElem? (i := 113) rfl
theorem ni_1022 : Cond.methodLinkNest RX0 22 yX3_allStrips RX8 ∈ gn_T := List.mem_of_getElem? (i := 114) rfl
theorem ni_1055 : Cond.methodLinkNest RX8 353 yX1_explainNothing RX8 ∈ gn_T := List.mem_of_getElem? (i := 115) rfl
theorem ni_1059 : Cond.methodLinkNest RX8 356 yX1_explain RX8 ∈ gn_T := List.mem_of_getElem? (i := 116) rfl
theorem ni_1064 : Cond.methodLinkNest RX1 87 yX3_allStrips RX8 ∈ gn_T := List.mem_of_getElem? (i := 117) rfl
theorem ni_1068 : Cond.methodLinkNest RX1 101 yX4_valueAt RX8 ∈ gn_T := List.mem_of_getElem? (i := 118) rfl
theorem ni_1069 : Cond.methodLinkNest RX1 98 yX2_stripsHungOver RX8 ∈ gn_T := List.mem_of_getElem? (i := 119) rfl
theorem ni_1097 : Cond.methodLinkNest RX8 326 yX4_renew RX8 ∈ gn_T := List.mem_of_getElem? (i := 120) rfl
theorem ni_1113 : Cond.methodLinkNest RX8 336 yX4_put RX8 ∈ gn_T := List.mem_of_getElem? (i := 121) rfl
set_option maxRecDepth 100000 in
theorem gn_in : ∀ w ∈ gn_T, w ∈ lw_tbl := slm_in 149 [true, false, false, false, false, false, true, false, false, false, false, false, false, false, false, false, false, false, true, true, true, true, true, true, false, true, true, false, true, false, true, true, false, true, true, false, true, true, false, true, true, false, true, true, false, true, true, false, true, true, false, true, true, true, false, true, true, false, true, false, true, true, false, true, false, true, true, true, false, false, false, false, false, false, false, false, false, false, false, false, false, false, false, false, false, false, false, false, false, false, false, false, false, false, false, false, false, false, false, false, false, false, false, false, true, false, true, false, true, false, false, false, false, false, false, false, false, false, false, false, false, false, false, false, false, false, false, false, false, false, false, false, false, false, false, true, false, false, false, false, false, true, false, false, false, false, true, true, true, true, false, false, true, false, false, true, true, true, false, false, false, false, false, false, false, false, false, false, false, false, false, false, false, false, false, false, false, false, false, false, false, false, false, false, false, false, false, false, false, false, false, true, false, false, false, false, true, false, true, true, false, false, false, true, true, false, false, false, false, false, false, true, false, true, false, false, false, false, false, false, false, false, false, false, false, false, false, false, false, false, false, false, false, false, false, false, false, false, false, true, false, false, false, false, false, false, false, false, true, false, false, false, false, false, false, false, false, false, false, false, false, false, true, false, false, false, false, false, false, false, true, false, true, false, false, false, false, false, false, false, false, false, false, false, false, false, true, false, false, false, false, false, false, false, false, false, false, false, true, false, false, false, false, true, false, false, true, true, false, false, false, false, false, false, false, false, false, false, false, false, false, false, false, false, false, false, false, false, false, false, false, false, false, false, false, false, false, false, false, false, false, false, false, false, false, false, false, false, false, false, false, false, false, false, false, false, false, false, false, false, false, false, false, false, false, false, false, false, false, false, true, false, false, false, false, false, false, false, false, false, false, false, false, true, false, false, false, false, false, false, false, false, false, false, false, false, false, false, false, false, false, false, false, false, false, false, false, false, false, false, false, false, false, false, false, false, false, false, false, false, false, false, false, false, false, false, false, false, false, false, false, false, false, false, false, false, false, false, false, false, false, false, false, false, false, false, false, false, false, false, false, false, false, false, false, false, false, false, false, false, false, false, false, false, false, false, false, false, false, false, false, false, false, false, false, false, true, false, false, false, false, false, false, false, false, false, false, false, false, false, false, false, false, false, false, true, false, false, false, false, false, false, false, false, true, false, false, false, false, false, false, false, false, false, false, false, false, true, false, false, false, true, false, false, false, false, false, false, false, false, false, false, false, false, false, false, false, false, false, false, false, false, false, true, false, false, false, true, false, false, false, false, false, false, false, false, false, false, false, true, false, false, false, false, false, false, false, false, true, false, false, false, false, false, false, false, true, false, false, false, false, false, false, false, true, false, false, false, false, false, false, false, true, false, false, false, false, false, false, false, false, false, false, false, false, false, false, false, false, true, false, false, false, false, false, false, false, false, false, true, true, false, false, false, false, false, false, false, false, false, false, true, false, false, false, true, false, false, false, false, false, false, true, true, false, false, false, true, false, false, false, false, false, false, false, false, false, false, false, false, false, false, false, false, false, false, false, false, false, false, false, false, false, false, false, false, false, false, false, false, false, false, false, false, false, false, false, false, false, false, false, true, false, false, false, false, false, false, false, false, false, false, false, false, false, false, false, false, false, false, false, false, false, false, false, false, false, false, false, false, false, false, false, true, false, false, false, false, false, false, false, false, false, false, false, false, true, false, false, false, false, false, true, false, false, false, true, true, false, false, false, false, false, false, false, false, false, false, false, false, false, false, false, false, false, false, false, false, false, false, false, false, false, false, true, false, false, false, false, false, false, false, false, false, false, false, true, false, false, true, false, false, false, false, false, false, false, false, false, false, true, false, false, false, false, false, false, false, true, false, false, false, true, false, true, true, true, false, false, false, false, true, false, false, false, false, false, false, false, false, false, false, false, false, false, false, false, false, true, false, false, false, false, true, false, false, false, true, true, true, false, false, false, false, true, false, false, false, false, false, false, false, false, true, false, false, false, false, false, false, false, false, true, true, false, false, false, false, false, false, false, false, false, false, false, false, false, false, false, false, false, false, false, false, false, false, false, false, false, false, false, false, false, false, false, false, true, false, false, false, true, false, false, false, false, true, false, false, false, true, true, false, false, false, false, false, false, false, false, false, false, false, false, false, false, false, false, false, false, false, false, false, false, false, false, false, false, false, true, false, false, false, false, false, false, false, false, false, false, false, false, false, false, false, true] rfl
