abbrev gl_0 : List Cond := u_ws RX0 TX0 2
abbrev gl_1 : List Cond := u_ws RX1 TX1 5
abbrev gl_2 : List Cond := u_ws RX2 TX2 11
abbrev gl_3 : List Cond := u_ws RX3 TX3 16
abbrev gl_4 : List Cond := u_ws RX4 TX4 4
abbrev gl_5 : List Cond := u_ws RX5 TX5 5
abbrev gl_6 : List Cond := u_ws RX6 TX6 9
abbrev gl_7 : List Cond := u_ws RX7 TX7 11
abbrev gl_8 : List Cond := u_ws RX8 TX8 13
abbrev gl_9 : List Cond := u_ws RX9 TX9 37
def gc_0 : List Cond := [Cond.selects RX3 yX3_hasStrip yX3_hasStrip, Cond.selects RX3 yX3_lightOf yX3_lightOf, Cond.selects RX3 yX3_unshadedLight yX3_unshadedLight, Cond.selects RX3 yX3_isShaded yX3_isShaded, Cond.selects RX3 yX3_litFrom yX3_litFrom, Cond.selects RX3 yX3_leastHeight yX3_leastHeight, Cond.selects RX3 yX3_allStrips yX3_allStrips, Cond.selects RX3 yX3_whyNot yX3_whyNot, Cond.selects RX3 yX3_target yX3_target, Cond.selects RX3 yX3_pass yX3_pass, Cond.selects RX4 yX4_valueAt yX4_valueAt, Cond.selects RX7 yX7_end yX7_end, Cond.selects RX7 yX7_first yX7_first, Cond.selects RX2 yX2_weightOf yX2_weightOf, Cond.selects RX2 yX2_fillCaps yX2_fillCaps, Cond.selects RX2 yX2_firstWorth yX2_firstWorth, Cond.selects RX2 yX2_open yX2_open, Cond.selects RX2 yX2_couldBeWorth yX2_couldBeWorth, Cond.selects RX2 yX2_fairScore yX2_fairScore, Cond.selects RX2 yX2_cutOf yX2_cutOf]
def gc_1 : List Cond := [Cond.selects RX2 yX2_weighedScore yX2_weighedScore, Cond.selects RX5 yX5_weigh yX5_weigh, Cond.selects RX1 yX1_keep yX1_keep, Cond.selects RX0 yX0_look yX0_look, Cond.selects RX0 yX0_leastBits yX0_leastBits, Cond.selects RX1 yX1_explainNothing yX1_explainNothing, Cond.selects RX2 yX2_stripsHungOver yX2_stripsHungOver, Cond.selects RX4 yX4_cut yX4_cut, Cond.initialized RX3, Cond.initialized RJ7, Cond.initialized RX7, Cond.initialized RX2, Cond.initialized RX5, Cond.initialized RX1, Cond.initialized RX0, Cond.initialized RX4, Cond.initialized "java/lang/Math", Cond.initialized "java/lang/System", Cond.initialized "java/lang/Integer", Cond.methodLink RX3 64 yJ7_fill_53178]
def gc_2 : List Cond := [Cond.static yJ7_fill_53178, Cond.fieldLink RX3 33 "RopeMoon$Plain" "strips" "I", Cond.fieldLink RX3 37 "RopeMoon$Plain" "lines" "I", Cond.fieldLink RX3 40 "RopeMoon$Plain" "minute" "I", Cond.fieldLink RX3 43 "RopeMoon$Plain" "at" "I", Cond.fieldLink RX3 46 "RopeMoon$Plain" "rope" "I", Cond.fieldLink RX3 49 "RopeMoon$Plain" "power" "I", Cond.fieldLink RX3 52 "RopeMoon$Plain" "fade" "I", Cond.fieldLink RX3 55 "RopeMoon$Plain" "oil" "I", Cond.fieldLink RX3 58 "RopeMoon$Plain" "moths" "I", Cond.fieldLink RX3 61 "RopeMoon$Plain" "crossing" "I", Cond.fieldLink RX3 9 "RopeMoon$Plain" "crops" "[I", Cond.fieldLink RX3 15 "RopeMoon$Plain" "reapers" "[I", Cond.fieldLink RX3 18 "RopeMoon$Plain" "trees" "[I", Cond.fieldLink RX3 21 "RopeMoon$Plain" "farms" "[I", Cond.fieldLink RX3 24 "RopeMoon$Plain" "reaped" "[I", Cond.fieldLink RX3 27 "RopeMoon$Plain" "bids" "[I", Cond.fieldLink RX7 22 "RopeMoon$Walks" "moves" "[I", Cond.fieldLink RX7 32 "RopeMoon$Walks" "starts" "[I", Cond.fieldLink RX7 42 "RopeMoon$Walks" "laid" "I"]
def gc_3 : List Cond := [Cond.fieldLink RX2 12 "RopeMoon$Harvest" "over" "LRopeMoon$Plain;", Cond.fieldLink RX2 18 "RopeMoon$Harvest" "goal" "I", Cond.fieldLink RX2 22 "RopeMoon$Harvest" "weights" "[I", Cond.fieldLink RX2 26 "RopeMoon$Harvest" "caps" "[I", Cond.fieldLink RX2 29 "RopeMoon$Harvest" "firstWorths" "[I", Cond.fieldLink RX2 32 "RopeMoon$Harvest" "farmGot" "[I", Cond.fieldLink RX2 35 "RopeMoon$Harvest" "hungOver" "[I", Cond.fieldLink RX2 38 "RopeMoon$Harvest" "hungTimes" "[I", Cond.fieldLink RX2 41 "RopeMoon$Harvest" "hung" "I", Cond.fieldLink RX2 44 "RopeMoon$Harvest" "bestScore" "I", Cond.fieldLink RX2 47 "RopeMoon$Harvest" "bestState" "I", Cond.fieldLink RX5 9 "RopeMoon$Shifts" "fewerCaps" "[I", Cond.fieldLink RX5 15 "RopeMoon$Shifts" "moreCaps" "[I", Cond.fieldLink RX5 18 "RopeMoon$Shifts" "without" "[I", Cond.fieldLink RX5 21 "RopeMoon$Shifts" "with" "[I", Cond.fieldLink RX5 24 "RopeMoon$Shifts" "mostSheaves" "[I", Cond.fieldLink RX1 11 "RopeMoon$Ends" "lowCrops" "[J", Cond.fieldLink RX1 15 "RopeMoon$Ends" "highCrops" "[J", Cond.fieldLink RX1 18 "RopeMoon$Ends" "unlike" "I", Cond.fieldLink RX1 22 "RopeMoon$Ends" "explained" "I"]
def gc_4 : List Cond := [Cond.fieldLink RX1 25 "RopeMoon$Ends" "sureStrips" "I", Cond.fieldLink RX0 9 "RopeMoon$Cover" "litFrom" "[I", Cond.fieldLink RX0 15 "RopeMoon$Cover" "lightersOf" "[I", Cond.fieldLink RX4 15 "RopeMoon$Row" "sort" "I", Cond.fieldLink RX4 19 "RopeMoon$Row" "size" "I", Cond.fieldLink RX4 22 "RopeMoon$Row" "values" "[J", Cond.static Lib.Math.min.name, Cond.static Lib.Math.max.name, Cond.static arraycopyName, Cond.native arraycopyName, Cond.methodLink RX3 70 arraycopyName, Cond.instanceMethod yX3_hasStrip, Cond.instanceMethod yX3_lightOf, Cond.methodLink RX3 93 yX3_unshadedLight, Cond.instanceMethod yX3_unshadedLight, Cond.methodLink RX3 80 Lib.Math.abs.name, Cond.static Lib.Math.abs.name, Cond.methodLink RX3 86 Lib.Math.max.name, Cond.methodLink RX3 96 yX3_isShaded, Cond.instanceMethod yX3_isShaded]
def gc_5 : List Cond := [Cond.methodLink RX3 90 Lib.Math.min.name, Cond.instanceMethod yX3_litFrom, Cond.methodLink RX3 100 yX3_lightOf, Cond.instanceMethod yX3_leastHeight, Cond.methodLink RX3 76 yX3_allStrips, Cond.instanceMethod yX3_allStrips, Cond.methodLink RX3 103 yX3_leastHeight, Cond.instanceMethod yX3_whyNot, Cond.methodLink RX3 112 yX3_target, Cond.instanceMethod yX3_target, Cond.constantLong RX3 106 (2), Cond.methodLink RX3 108 yX3_hasStrip, Cond.instanceMethod yX3_pass, Cond.instanceMethod yX4_valueAt, Cond.constantLong RX4 41 (-1), Cond.methodLink RX3 125 yX3_whyNot, Cond.methodLink RX3 129 yX3_pass, Cond.methodLink RX7 52 Lib.Math.min.name, Cond.instanceMethod yX7_end, Cond.methodLink RX7 67 Lib.Math.max.name]
def gc_6 : List Cond := [Cond.instanceMethod yX7_first, Cond.methodLink RX2 56 yX2_weightOf, Cond.instanceMethod yX2_weightOf, Cond.methodLink RX2 60 yX2_fillCaps, Cond.instanceMethod yX2_fillCaps, Cond.methodLink RX2 82 Lib.Math.max.name, Cond.methodLink RX2 71 Lib.Math.min.name, Cond.methodLink RX2 64 yX2_firstWorth, Cond.instanceMethod yX2_firstWorth, Cond.methodLink RX2 104 yX2_open, Cond.instanceMethod yX2_open, Cond.constantLong RX2 118 (15), Cond.methodLink RX2 108 yX2_couldBeWorth, Cond.instanceMethod yX2_couldBeWorth, Cond.methodLink RX2 112 yX2_fairScore, Cond.instanceMethod yX2_fairScore, Cond.methodLink RX2 124 yJ7_fill_53178, Cond.methodLink RX2 120 yX2_cutOf, Cond.instanceMethod yX2_cutOf, Cond.methodLink RX2 115 yX2_weighedScore]
def gc_7 : List Cond := [Cond.instanceMethod yX2_weighedScore, Cond.methodLink RX5 33 yJ7_fill_53178, Cond.methodLink RX5 59 yX5_weigh, Cond.instanceMethod yX5_weigh, Cond.methodLink RX1 50 yX1_packed, Cond.static yX1_packed, Cond.methodLink RX1 67 Lib.Math.min.name, Cond.methodLink RX1 54 yX1_keep, Cond.instanceMethod yX1_keep, Cond.methodLink RX0 18 yX0_look, Cond.instanceMethod yX0_look, Cond.methodLink RX0 40 yJ7_fill_53178, Cond.methodLink RX0 32 yX0_canLight, Cond.static yX0_canLight, Cond.methodLink RX0 49 yJ6_numberOfTrailingZeros_0f7a4, Cond.static yJ6_numberOfTrailingZeros_0f7a4, Cond.constant "java/lang/Integer" 264 (65536), Cond.methodLink RX0 36 yX0_leastBits, Cond.instanceMethod yX0_leastBits, Cond.instanceMethod yX1_explainNothing]
def gc_8 : List Cond := [Cond.methodLink RX1 84 yX1_explainNothing, Cond.methodLink RX1 91 yX1_leaves, Cond.static yX1_leaves, Cond.instanceMethod yX2_stripsHungOver, Cond.constantLong RX4 43 (-7), Cond.methodLink RX4 45 yX4_cut, Cond.instanceMethod yX4_cut]
def gc_9 : List Cond := [Cond.code yJ7_fill_53178 cJ7_fill_53178 4 none, Cond.code Lib.Math.min.name Lib.Math.min.code 2 (some .int), Cond.code Lib.Math.max.name Lib.Math.max.code 2 (some .int), Cond.code yX3_hasStrip cX3_hasStrip 2 (some .boolean), Cond.code yX3_lightOf cX3_lightOf 4 (some .int), Cond.code yX3_unshadedLight cX3_unshadedLight 3 (some .int), Cond.code Lib.Math.abs.name Lib.Math.abs.code 1 (some .int), Cond.code yX3_isShaded cX3_isShaded 6 (some .boolean), Cond.code yX3_litFrom cX3_litFrom 4 (some .int), Cond.code yX3_leastHeight cX3_leastHeight 9 (some .int), Cond.code yX3_allStrips cX3_allStrips 1 (some .int), Cond.code yX3_whyNot cX3_whyNot 3 (some .int)]
def gc_10 : List Cond := [Cond.code yX3_target cX3_target 5 (some .int), Cond.code yX3_pass cX3_pass 6 (some .int), Cond.code yX4_valueAt cX4_valueAt 2 (some .long), Cond.code yX7_end cX7_end 2 (some .int), Cond.code yX7_first cX7_first 2 (some .int), Cond.code yX2_weightOf cX2_weightOf 3 (some .int), Cond.code yX2_fillCaps cX2_fillCaps 6 none, Cond.code yX2_firstWorth cX2_firstWorth 4 (some .int), Cond.code yX2_open cX2_open 7 none, Cond.code yX2_couldBeWorth cX2_couldBeWorth 3 (some .int), Cond.code yX2_fairScore cX2_fairScore 4 (some .int), Cond.code yX2_cutOf cX2_cutOf 5 (some .int)]
def gc_11 : List Cond := [Cond.code yX2_weighedScore cX2_weighedScore 3 (some .int), Cond.code yX5_weigh cX5_weigh 9 none, Cond.code yX1_packed cX1_packed 6 (some .long), Cond.code yX1_keep cX1_keep 6 none, Cond.code yX0_look cX0_look 4 none, Cond.code yX0_canLight cX0_canLight 8 (some .boolean), Cond.code yJ6_numberOfTrailingZeros_0f7a4 cJ6_numberOfTrailingZeros_0f7a4 2 (some .int), Cond.code yX0_leastBits cX0_leastBits 8 (some .int), Cond.code yX1_explainNothing cX1_explainNothing 1 none, Cond.code yX1_leaves cX1_leaves 3 (some .boolean), Cond.code yX2_stripsHungOver cX2_stripsHungOver 3 (some .int), Cond.code yX4_cut cX4_cut 3 (some .long)]
def gw_T : List Cond := gl_0 ++ (gl_1 ++ (gl_2 ++ (gl_3 ++ (gl_4 ++ (gl_5 ++ (gl_6 ++ (gl_7 ++ (gl_8 ++ (gl_9 ++ (gc_0 ++ (gc_1 ++ (gc_2 ++ (gc_3 ++ (gc_4 ++ (gc_5 ++ (gc_6 ++ (gc_7 ++ (gc_8 ++ (gc_9 ++ (gc_10 ++ (gc_11)))))))))))))))))))))
theorem in_gl_0 : ∀ w ∈ gl_0, w ∈ gw_T := fun _ h => List.mem_append_left _ h
theorem in_gl_1 : ∀ w ∈ gl_1, w ∈ gw_T := fun _ h => List.mem_append_right _ (List.mem_append_left _ h)
theorem in_gl_2 : ∀ w ∈ gl_2, w ∈ gw_T := fun _ h => List.mem_append_right _ (List.mem_append_right _ (List.mem_append_left _ h))
theorem in_gl_3 : ∀ w ∈ gl_3, w ∈ gw_T := fun _ h => List.mem_append_right _ (List.mem_append_right _ (List.mem_append_right _ (List.mem_append_left _ h)))
theorem in_gl_4 : ∀ w ∈ gl_4, w ∈ gw_T := fun _ h => List.mem_append_right _ (List.mem_append_right _ (List.mem_append_right _ (List.mem_append_right _ (List.mem_append_left _ h))))
theorem in_gl_5 : ∀ w ∈ gl_5, w ∈ gw_T := fun _ h => List.mem_append_right _ (List.mem_append_right _ (List.mem_append_right _ (List.mem_append_right _ (List.mem_append_right _ (List.mem_append_left _ h)))))
theorem in_gl_6 : ∀ w ∈ gl_6, w ∈ gw_T := fun _ h => List.mem_append_right _ (List.mem_append_right _ (List.mem_append_right _ (List.mem_append_right _ (List.mem_append_right _ (List.mem_append_right _ (List.mem_append_left _ h))))))
theorem in_gl_7 : ∀ w ∈ gl_7, w ∈ gw_T := fun _ h => List.mem_append_right _ (List.mem_append_right _ (List.mem_append_right _ (List.mem_append_right _ (List.mem_append_right _ (List.mem_append_right _ (List.mem_append_right _ (List.mem_append_left _ h)))))))
theorem in_gl_8 : ∀ w ∈ gl_8, w ∈ gw_T := fun _ h => List.mem_append_right _ (List.mem_append_right _ (List.mem_append_right _ (List.mem_append_right _ (List.mem_append_right _ (List.mem_append_right _ (List.mem_append_right _ (List.mem_append_right _ (List.mem_append_left _ h))))))))
theorem in_gl_9 : ∀ w ∈ gl_9, w ∈ gw_T := fun _ h => List.mem_append_right _ (List.mem_append_right _ (List.mem_append_right _ (List.mem_append_right _ (List.mem_append_right _ (List.mem_append_right _ (List.mem_append_right _ (List.mem_append_right _ (List.mem_append_right _ (List.mem_append_left _ h)))))))))
theorem in_gc_0 : ∀ w ∈ gc_0, w ∈ gw_T := fun _ h => List.mem_append_right _ (List.mem_append_right _ (List.mem_append_right _ (List.mem_append_right _ (List.mem_append_right _ (List.mem_append_right _ (List.mem_append_right _ (List.mem_append_right _ (List.mem_append_right _ (List.mem_append_right _ (List.mem_append_left _ h))))))))))
theorem in_gc_1 : ∀ w ∈ gc_1, w ∈ gw_T := fun _ h => List.mem_append_right _ (List.mem_append_right _ (List.mem_append_right _ (List.mem_append_right _ (List.mem_append_right _ (List.mem_append_right _ (List.mem_append_right _ (List.mem_append_right _ (List.mem_append_right _ (List.mem_append_right _ (List.mem_append_right _ (List.mem_append_left _ h)))))))))))
theorem in_gc_2 : ∀ w ∈ gc_2, w ∈ gw_T := fun _ h => List.mem_append_right _ (List.mem_append_right _ (List.mem_append_right _ (List.mem_append_right _ (List.mem_append_right _ (List.mem_append_right _ (List.mem_append_right _ (List.mem_append_right _ (List.mem_append_right _ (List.mem_append_right _ (List.mem_append_right _ (List.mem_append_right _ (List.mem_append_left _ h))))))))))))
theorem in_gc_3 : ∀ w ∈ gc_3, w ∈ gw_T := fun _ h => List.mem_append_right _ (List.mem_append_right _ (List.mem_append_right _ (List.mem_append_right _ (List.mem_append_right _ (List.mem_append_right _ (List.mem_append_right _ (List.mem_append_right _ (List.mem_append_right _ (List.mem_append_right _ (List.mem_append_right _ (List.mem_append_right _ (List.mem_append_right _ (List.mem_append_left _ h)))))))))))))
theorem in_gc_4 : ∀ w ∈ gc_4, w ∈ gw_T := fun _ h => List.mem_append_right _ (List.mem_append_right _ (List.mem_append_right _ (List.mem_append_right _ (List.mem_append_right _ (List.mem_append_right _ (List.mem_append_right _ (List.mem_append_right _ (List.mem_append_right _ (List.mem_append_right _ (List.mem_append_right _ (List.mem_append_right _ (List.mem_append_right _ (List.mem_append_right _ (List.mem_append_left _ h))))))))))))))
theorem in_gc_5 : ∀ w ∈ gc_5, w ∈ gw_T := fun _ h => List.mem_append_right _ (List.mem_append_right _ (List.mem_append_right _ (List.mem_append_right _ (List.mem_append_right _ (List.mem_append_right _ (List.mem_append_right _ (List.mem_append_right _ (List.mem_append_right _ (List.mem_append_right _ (List.mem_append_right _ (List.mem_append_right _ (List.mem_append_right _ (List.mem_append_right _ (List.mem_append_right _ (List.mem_append_left _ h)))))))))))))))
theorem in_gc_6 : ∀ w ∈ gc_6, w ∈ gw_T := fun _ h => List.mem_append_right _ (List.mem_append_right _ (List.mem_append_right _ (List.mem_append_right _ (List.mem_append_right _ (List.mem_append_right _ (List.mem_append_right _ (List.mem_append_right _ (List.mem_append_right _ (List.mem_append_right _ (List.mem_append_right _ (List.mem_append_right _ (List.mem_append_right _ (List.mem_append_right _ (List.mem_append_right _ (List.mem_append_right _ (List.mem_append_left _ h))))))))))))))))
theorem in_gc_7 : ∀ w ∈ gc_7, w ∈ gw_T := fun _ h => List.mem_append_right _ (List.mem_append_right _ (List.mem_append_right _ (List.mem_append_right _ (List.mem_append_right _ (List.mem_append_right _ (List.mem_append_right _ (List.mem_append_right _ (List.mem_append_right _ (List.mem_append_right _ (List.mem_append_right _ (List.mem_append_right _ (List.mem_append_right _ (List.mem_append_right _ (List.mem_append_right _ (List.mem_append_right _ (List.mem_append_right _ (List.mem_append_left _ h)))))))))))))))))
theorem in_gc_8 : ∀ w ∈ gc_8, w ∈ gw_T := fun _ h => List.mem_append_right _ (List.mem_append_right _ (List.mem_append_right _ (List.mem_append_right _ (List.mem_append_right _ (List.mem_append_right _ (List.mem_append_right _ (List.mem_append_right _ (List.mem_append_right _ (List.mem_append_right _ (List.mem_append_right _ (List.mem_append_right _ (List.mem_append_right _ (List.mem_append_right _ (List.mem_append_right _ (List.mem_append_right _ (List.mem_append_right _ (List.mem_append_right _ (List.mem_append_left _ h))))))))))))))))))
theorem in_gc_9 : ∀ w ∈ gc_9, w ∈ gw_T := fun _ h => List.mem_append_right _ (List.mem_append_right _ (List.mem_append_right _ (List.mem_append_right _ (List.mem_append_right _ (List.mem_append_right _ (List.mem_append_right _ (List.mem_append_right _ (List.mem_append_right _ (List.mem_append_right _ (List.mem_append_right _ (List.mem_append_right _ (List.mem_append_right _ (List.mem_append_right _ (List.mem_append_right _ (List.mem_append_right _ (List.mem_append_right _ (List.mem_append_right _ (List.mem_append_right _ (List.mem_append_left _ h)))))))))))))))))))
theorem in_gc_10 : ∀ w ∈ gc_10, w ∈ gw_T := fun _ h => List.mem_append_right _ (List.mem_append_right _ (List.mem_append_right _ (List.mem_append_right _ (List.mem_append_right _ (List.mem_append_right _ (List.mem_append_right _ (List.mem_append_right _ (List.mem_append_right _ (List.mem_append_right _ (List.mem_append_right _ (List.mem_append_right _ (List.mem_append_right _ (List.mem_append_right _ (List.mem_append_right _ (List.mem_append_right _ (List.mem_append_right _ (List.mem_append_right _ (List.mem_append_right _ (List.mem_append_right _ (List.mem_append_left _ h))))))))))))))))))))
theorem in_gc_11 : ∀ w ∈ gc_11, w ∈ gw_T := fun _ h => List.mem_append_right _ (List.mem_append_right _ (List.mem_append_right _ (List.mem_append_right _ (List.mem_append_right _ (List.mem_append_right _ (List.mem_append_right _ (List.mem_append_right _ (List.mem_append_right _ (List.mem_append_right _ (List.mem_append_right _ (List.mem_append_right _ (List.mem_append_right _ (List.mem_append_right _ (List.mem_append_right _ (List.mem_append_right _ (List.mem_append_right _ (List.mem_append_right _ (List.mem_append_right _ (List.mem_append_right _ (List.mem_append_right _ (h)))))))))))))))))))))
theorem gRX0 : ∀ w ∈ u_ws RX0 TX0 2, w ∈ gw_T := in_gl_0
theorem gRX1 : ∀ w ∈ u_ws RX1 TX1 5, w ∈ gw_T := in_gl_1
theorem gRX2 : ∀ w ∈ u_ws RX2 TX2 11, w ∈ gw_T := in_gl_2
theorem gRX3 : ∀ w ∈ u_ws RX3 TX3 16, w ∈ gw_T := in_gl_3
theorem gRX4 : ∀ w ∈ u_ws RX4 TX4 4, w ∈ gw_T := in_gl_4
theorem gRX5 : ∀ w ∈ u_ws RX5 TX5 5, w ∈ gw_T := in_gl_5
theorem gRX6 : ∀ w ∈ u_ws RX6 TX6 9, w ∈ gw_T := in_gl_6
theorem gRX7 : ∀ w ∈ u_ws RX7 TX7 11, w ∈ gw_T := in_gl_7
theorem gRX8 : ∀ w ∈ u_ws RX8 TX8 13, w ∈ gw_T := in_gl_8
theorem gRX9 : ∀ w ∈ u_ws RX9 TX9 37, w ∈ gw_T := in_gl_9
theorem wi_18 : Cond.selects RX3 yX3_hasStrip yX3_hasStrip ∈ gw_T := in_gc_0 _ (List.mem_of_getElem? (i := 0) rfl)
theorem wi_19 : Cond.selects RX3 yX3_lightOf yX3_lightOf ∈ gw_T := in_gc_0 _ (List.mem_of_getElem? (i := 1) rfl)
theorem wi_20 : Cond.selects RX3 yX3_unshadedLight yX3_unshadedLight ∈ gw_T := in_gc_0 _ (List.mem_of_getElem? (i := 2) rfl)
theorem wi_21 : Cond.selects RX3 yX3_isShaded yX3_isShaded ∈ gw_T := in_gc_0 _ (List.mem_of_getElem? (i := 3) rfl)
theorem wi_24 : Cond.selects RX3 yX3_litFrom yX3_litFrom ∈ gw_T := in_gc_0 _ (List.mem_of_getElem? (i := 4) rfl)
theorem wi_26 : Cond.selects RX3 yX3_leastHeight yX3_leastHeight ∈ gw_T := in_gc_0 _ (List.mem_of_getElem? (i := 5) rfl)
theorem wi_28 : Cond.selects RX3 yX3_allStrips yX3_allStrips ∈ gw_T := in_gc_0 _ (List.mem_of_getElem? (i := 6) rfl)
theorem wi_30 : Cond.selects RX3 yX3_whyNot yX3_whyNot ∈ gw_T := in_gc_0 _ (List.mem_of_getElem? (i := 7) rfl)
theorem wi_31 : Cond.selects RX3 yX3_target yX3_target ∈ gw_T := in_gc_0 _ (List.mem_of_getElem? (i := 8) rfl)
theorem wi_32 : Cond.selects RX3 yX3_pass yX3_pass ∈ gw_T := in_gc_0 _ (List.mem_of_getElem? (i := 9) rfl)
theorem wi_34 : Cond.selects RX4 yX4_valueAt yX4_valueAt ∈ gw_T := in_gc_0 _ (List.mem_of_getElem? (i := 10) rfl)
theorem wi_43 : Cond.selects RX7 yX7_end yX7_end ∈ gw_T := in_gc_0 _ (List.mem_of_getElem? (i := 11) rfl)
theorem wi_44 : Cond.selects RX7 yX7_first yX7_first ∈ gw_T := in_gc_0 _ (List.mem_of_getElem? (i := 12) rfl)
theorem wi_48 : Cond.selects RX2 yX2_weightOf yX2_weightOf ∈ gw_T := in_gc_0 _ (List.mem_of_getElem? (i := 13) rfl)
theorem wi_49 : Cond.selects RX2 yX2_fillCaps yX2_fillCaps ∈ gw_T := in_gc_0 _ (List.mem_of_getElem? (i := 14) rfl)
theorem wi_50 : Cond.selects RX2 yX2_firstWorth yX2_firstWorth ∈ gw_T := in_gc_0 _ (List.mem_of_getElem? (i := 15) rfl)
theorem wi_52 : Cond.selects RX2 yX2_open yX2_open ∈ gw_T := in_gc_0 _ (List.mem_of_getElem? (i := 16) rfl)
theorem wi_53 : Cond.selects RX2 yX2_couldBeWorth yX2_couldBeWorth ∈ gw_T := in_gc_0 _ (List.mem_of_getElem? (i := 17) rfl)
theorem wi_54 : Cond.selects RX2 yX2_fairScore yX2_fairScore ∈ gw_T := in_gc_0 _ (List.mem_of_getElem? (i := 18) rfl)
theorem wi_55 : Cond.selects RX2 yX2_cutOf yX2_cutOf ∈ gw_T := in_gc_0 _ (List.mem_of_getElem? (i := 19) rfl)
theorem wi_56 : Cond.selects RX2 yX2_weighedScore yX2_weighedScore ∈ gw_T := in_gc_1 _ (List.mem_of_getElem? (i := 0) rfl)
theorem wi_61 : Cond.selects RX5 yX5_weigh yX5_weigh ∈ gw_T := in_gc_1 _ (List.mem_of_getElem? (i := 1) rfl)
theorem wi_64 : Cond.selects RX1 yX1_keep yX1_keep ∈ gw_T := in_gc_1 _ (List.mem_of_getElem? (i := 2) rfl)
theorem wi_66 : Cond.selects RX0 yX0_look yX0_look ∈ gw_T := in_gc_1 _ (List.mem_of_getElem? (i := 3) rfl)
theorem wi_67 : Cond.selects RX0 yX0_leastBits yX0_leastBits ∈ gw_T := in_gc_1 _ (List.mem_of_getElem? (i := 4) rfl)
theorem wi_70 : Cond.selects RX1 yX1_explainNothing yX1_explainNothing ∈ gw_T := in_gc_1 _ (List.mem_of_getElem? (i := 5) rfl)
theorem wi_72 : Cond.selects RX2 yX2_stripsHungOver yX2_stripsHungOver ∈ gw_T := in_gc_1 _ (List.mem_of_getElem? (i := 6) rfl)
theorem wi_77 : Cond.selects RX4 yX4_cut yX4_cut ∈ gw_T := in_gc_1 _ (List.mem_of_getElem? (i := 7) rfl)
theorem wi_123 : Cond.initialized RX3 ∈ gw_T := in_gc_1 _ (List.mem_of_getElem? (i := 8) rfl)
theorem wi_124 : Cond.initialized RJ7 ∈ gw_T := in_gc_1 _ (List.mem_of_getElem? (i := 9) rfl)
theorem wi_125 : Cond.initialized RX7 ∈ gw_T := in_gc_1 _ (List.mem_of_getElem? (i := 10) rfl)
theorem wi_126 : Cond.initialized RX2 ∈ gw_T := in_gc_1 _ (List.mem_of_getElem? (i := 11) rfl)
theorem wi_127 : Cond.initialized RX5 ∈ gw_T := in_gc_1 _ (List.mem_of_getElem? (i := 12) rfl)
theorem wi_128 : Cond.initialized RX1 ∈ gw_T := in_gc_1 _ (List.mem_of_getElem? (i := 13) rfl)
theorem wi_129 : Cond.initialized RX0 ∈ gw_T := in_gc_1 _ (List.mem_of_getElem? (i := 14) rfl)
theorem wi_130 : Cond.initialized RX4 ∈ gw_T := in_gc_1 _ (List.mem_of_getElem? (i := 15) rfl)
theorem wi_132 : Cond.initialized "java/lang/Math" ∈ gw_T := in_gc_1 _ (List.mem_of_getElem? (i := 16) rfl)
theorem wi_133 : Cond.initialized "java/lang/System" ∈ gw_T := in_gc_1 _ (List.mem_of_getElem? (i := 17) rfl)
theorem wi_138 : Cond.initialized "java/lang/Integer" ∈ gw_T := in_gc_1 _ (List.mem_of_getElem? (i := 18) rfl)
theorem wi_163 : Cond.methodLink RX3 64 yJ7_fill_53178 ∈ gw_T := in_gc_1 _ (List.mem_of_getElem? (i := 19) rfl)
theorem wi_164 : Cond.static yJ7_fill_53178 ∈ gw_T := in_gc_2 _ (List.mem_of_getElem? (i := 0) rfl)
theorem wi_166 : Cond.fieldLink RX3 33 "RopeMoon$Plain" "strips" "I" ∈ gw_T := in_gc_2 _ (List.mem_of_getElem? (i := 1) rfl)
theorem wi_173 : Cond.fieldLink RX3 37 "RopeMoon$Plain" "lines" "I" ∈ gw_T := in_gc_2 _ (List.mem_of_getElem? (i := 2) rfl)
theorem wi_176 : Cond.fieldLink RX3 40 "RopeMoon$Plain" "minute" "I" ∈ gw_T := in_gc_2 _ (List.mem_of_getElem? (i := 3) rfl)
theorem wi_178 : Cond.fieldLink RX3 43 "RopeMoon$Plain" "at" "I" ∈ gw_T := in_gc_2 _ (List.mem_of_getElem? (i := 4) rfl)
theorem wi_181 : Cond.fieldLink RX3 46 "RopeMoon$Plain" "rope" "I" ∈ gw_T := in_gc_2 _ (List.mem_of_getElem? (i := 5) rfl)
theorem wi_184 : Cond.fieldLink RX3 49 "RopeMoon$Plain" "power" "I" ∈ gw_T := in_gc_2 _ (List.mem_of_getElem? (i := 6) rfl)
theorem wi_187 : Cond.fieldLink RX3 52 "RopeMoon$Plain" "fade" "I" ∈ gw_T := in_gc_2 _ (List.mem_of_getElem? (i := 7) rfl)
theorem wi_190 : Cond.fieldLink RX3 55 "RopeMoon$Plain" "oil" "I" ∈ gw_T := in_gc_2 _ (List.mem_of_getElem? (i := 8) rfl)
theorem wi_193 : Cond.fieldLink RX3 58 "RopeMoon$Plain" "moths" "I" ∈ gw_T := in_gc_2 _ (List.mem_of_getElem? (i := 9) rfl)
theorem wi_196 : Cond.fieldLink RX3 61 "RopeMoon$Plain" "crossing" "I" ∈ gw_T := in_gc_2 _ (List.mem_of_getElem? (i := 10) rfl)
theorem wi_199 : Cond.fieldLink RX3 9 "RopeMoon$Plain" "crops" "[I" ∈ gw_T := in_gc_2 _ (List.mem_of_getElem? (i := 11) rfl)
theorem wi_203 : Cond.fieldLink RX3 15 "RopeMoon$Plain" "reapers" "[I" ∈ gw_T := in_gc_2 _ (List.mem_of_getElem? (i := 12) rfl)
theorem wi_206 : Cond.fieldLink RX3 18 "RopeMoon$Plain" "trees" "[I" ∈ gw_T := in_gc_2 _ (List.mem_of_getElem? (i := 13) rfl)
theorem wi_208 : Cond.fieldLink RX3 21 "RopeMoon$Plain" "farms" "[I" ∈ gw_T := in_gc_2 _ (List.mem_of_getElem? (i := 14) rfl)
theorem wi_211 : Cond.fieldLink RX3 24 "RopeMoon$Plain" "reaped" "[I" ∈ gw_T := in_gc_2 _ (List.mem_of_getElem? (i := 15) rfl)
theorem wi_213 : Cond.fieldLink RX3 27 "RopeMoon$Plain" "bids" "[I" ∈ gw_T := in_gc_2 _ (List.mem_of_getElem? (i := 16) rfl)
theorem wi_302 : Cond.fieldLink RX7 22 "RopeMoon$Walks" "moves" "[I" ∈ gw_T := in_gc_2 _ (List.mem_of_getElem? (i := 17) rfl)
theorem wi_308 : Cond.fieldLink RX7 32 "RopeMoon$Walks" "starts" "[I" ∈ gw_T := in_gc_2 _ (List.mem_of_getElem? (i := 18) rfl)
theorem wi_311 : Cond.fieldLink RX7 42 "RopeMoon$Walks" "laid" "I" ∈ gw_T := in_gc_2 _ (List.mem_of_getElem? (i := 19) rfl)
theorem wi_346 : Cond.fieldLink RX2 12 "RopeMoon$Harvest" "over" "LRopeMoon$Plain;" ∈ gw_T := in_gc_3 _ (List.mem_of_getElem? (i := 0) rfl)
theorem wi_349 : Cond.fieldLink RX2 18 "RopeMoon$Harvest" "goal" "I" ∈ gw_T := in_gc_3 _ (List.mem_of_getElem? (i := 1) rfl)
theorem wi_350 : Cond.fieldLink RX2 22 "RopeMoon$Harvest" "weights" "[I" ∈ gw_T := in_gc_3 _ (List.mem_of_getElem? (i := 2) rfl)
theorem wi_351 : Cond.fieldLink RX2 26 "RopeMoon$Harvest" "caps" "[I" ∈ gw_T := in_gc_3 _ (List.mem_of_getElem? (i := 3) rfl)
theorem wi_354 : Cond.fieldLink RX2 29 "RopeMoon$Harvest" "firstWorths" "[I" ∈ gw_T := in_gc_3 _ (List.mem_of_getElem? (i := 4) rfl)
theorem wi_355 : Cond.fieldLink RX2 32 "RopeMoon$Harvest" "farmGot" "[I" ∈ gw_T := in_gc_3 _ (List.mem_of_getElem? (i := 5) rfl)
theorem wi_356 : Cond.fieldLink RX2 35 "RopeMoon$Harvest" "hungOver" "[I" ∈ gw_T := in_gc_3 _ (List.mem_of_getElem? (i := 6) rfl)
theorem wi_357 : Cond.fieldLink RX2 38 "RopeMoon$Harvest" "hungTimes" "[I" ∈ gw_T := in_gc_3 _ (List.mem_of_getElem? (i := 7) rfl)
theorem wi_358 : Cond.fieldLink RX2 41 "RopeMoon$Harvest" "hung" "I" ∈ gw_T := in_gc_3 _ (List.mem_of_getElem? (i := 8) rfl)
theorem wi_359 : Cond.fieldLink RX2 44 "RopeMoon$Harvest" "bestScore" "I" ∈ gw_T := in_gc_3 _ (List.mem_of_getElem? (i := 9) rfl)
theorem wi_361 : Cond.fieldLink RX2 47 "RopeMoon$Harvest" "bestState" "I" ∈ gw_T := in_gc_3 _ (List.mem_of_getElem? (i := 10) rfl)
theorem wi_392 : Cond.fieldLink RX5 9 "RopeMoon$Shifts" "fewerCaps" "[I" ∈ gw_T := in_gc_3 _ (List.mem_of_getElem? (i := 11) rfl)
theorem wi_393 : Cond.fieldLink RX5 15 "RopeMoon$Shifts" "moreCaps" "[I" ∈ gw_T := in_gc_3 _ (List.mem_of_getElem? (i := 12) rfl)
theorem wi_394 : Cond.fieldLink RX5 18 "RopeMoon$Shifts" "without" "[I" ∈ gw_T := in_gc_3 _ (List.mem_of_getElem? (i := 13) rfl)
theorem wi_395 : Cond.fieldLink RX5 21 "RopeMoon$Shifts" "with" "[I" ∈ gw_T := in_gc_3 _ (List.mem_of_getElem? (i := 14) rfl)
theorem wi_396 : Cond.fieldLink RX5 24 "RopeMoon$Shifts" "mostSheaves" "[I" ∈ gw_T := in_gc_3 _ (List.mem_of_getElem? (i := 15) rfl)
theorem wi_415 : Cond.fieldLink RX1 11 "RopeMoon$Ends" "lowCrops" "[J" ∈ gw_T := in_gc_3 _ (List.mem_of_getElem? (i := 16) rfl)
theorem wi_416 : Cond.fieldLink RX1 15 "RopeMoon$Ends" "highCrops" "[J" ∈ gw_T := in_gc_3 _ (List.mem_of_getElem? (i := 17) rfl)
theorem wi_417 : Cond.fieldLink RX1 18 "RopeMoon$Ends" "unlike" "I" ∈ gw_T := in_gc_3 _ (List.mem_of_getElem? (i := 18) rfl)
theorem wi_418 : Cond.fieldLink RX1 22 "RopeMoon$Ends" "explained" "I" ∈ gw_T := in_gc_3 _ (List.mem_of_getElem? (i := 19) rfl)
theorem wi_420 : Cond.fieldLink RX1 25 "RopeMoon$Ends" "sureStrips" "I" ∈ gw_T := in_gc_4 _ (List.mem_of_getElem? (i := 0) rfl)
theorem wi_439 : Cond.fieldLink RX0 9 "RopeMoon$Cover" "litFrom" "[I" ∈ gw_T := in_gc_4 _ (List.mem_of_getElem? (i := 1) rfl)
theorem wi_440 : Cond.fieldLink RX0 15 "RopeMoon$Cover" "lightersOf" "[I" ∈ gw_T := in_gc_4 _ (List.mem_of_getElem? (i := 2) rfl)
theorem wi_453 : Cond.fieldLink RX4 15 "RopeMoon$Row" "sort" "I" ∈ gw_T := in_gc_4 _ (List.mem_of_getElem? (i := 3) rfl)
theorem wi_454 : Cond.fieldLink RX4 19 "RopeMoon$Row" "size" "I" ∈ gw_T := in_gc_4 _ (List.mem_of_getElem? (i := 4) rfl)
theorem wi_457 : Cond.fieldLink RX4 22 "RopeMoon$Row" "values" "[J" ∈ gw_T := in_gc_4 _ (List.mem_of_getElem? (i := 5) rfl)
theorem wi_524 : Cond.static Lib.Math.min.name ∈ gw_T := in_gc_4 _ (List.mem_of_getElem? (i := 6) rfl)
theorem wi_527 : Cond.static Lib.Math.max.name ∈ gw_T := in_gc_4 _ (List.mem_of_getElem? (i := 7) rfl)
theorem wi_530 : Cond.static arraycopyName ∈ gw_T := in_gc_4 _ (List.mem_of_getElem? (i := 8) rfl)
theorem wi_531 : Cond.native arraycopyName ∈ gw_T := in_gc_4 _ (List.mem_of_getElem? (i := 9) rfl)
theorem wi_657 : Cond.methodLink RX3 70 arraycopyName ∈ gw_T := in_gc_4 _ (List.mem_of_getElem? (i := 10) rfl)
theorem wi_668 : Cond.instanceMethod yX3_hasStrip ∈ gw_T := in_gc_4 _ (List.mem_of_getElem? (i := 11) rfl)
theorem wi_672 : Cond.instanceMethod yX3_lightOf ∈ gw_T := in_gc_4 _ (List.mem_of_getElem? (i := 12) rfl)
theorem wi_674 : Cond.methodLink RX3 93 yX3_unshadedLight ∈ gw_T := in_gc_4 _ (List.mem_of_getElem? (i := 13) rfl)
theorem wi_676 : Cond.instanceMethod yX3_unshadedLight ∈ gw_T := in_gc_4 _ (List.mem_of_getElem? (i := 14) rfl)
theorem wi_678 : Cond.methodLink RX3 80 Lib.Math.abs.name ∈ gw_T := in_gc_4 _ (List.mem_of_getElem? (i := 15) rfl)
theorem wi_679 : Cond.static Lib.Math.abs.name ∈ gw_T := in_gc_4 _ (List.mem_of_getElem? (i := 16) rfl)
theorem wi_681 : Cond.methodLink RX3 86 Lib.Math.max.name ∈ gw_T := in_gc_4 _ (List.mem_of_getElem? (i := 17) rfl)
theorem wi_682 : Cond.methodLink RX3 96 yX3_isShaded ∈ gw_T := in_gc_4 _ (List.mem_of_getElem? (i := 18) rfl)
theorem wi_684 : Cond.instanceMethod yX3_isShaded ∈ gw_T := in_gc_4 _ (List.mem_of_getElem? (i := 19) rfl)
theorem wi_686 : Cond.methodLink RX3 90 Lib.Math.min.name ∈ gw_T := in_gc_5 _ (List.mem_of_getElem? (i := 0) rfl)
theorem wi_710 : Cond.instanceMethod yX3_litFrom ∈ gw_T := in_gc_5 _ (List.mem_of_getElem? (i := 1) rfl)
theorem wi_712 : Cond.methodLink RX3 100 yX3_lightOf ∈ gw_T := in_gc_5 _ (List.mem_of_getElem? (i := 2) rfl)
theorem wi_727 : Cond.instanceMethod yX3_leastHeight ∈ gw_T := in_gc_5 _ (List.mem_of_getElem? (i := 3) rfl)
theorem wi_737 : Cond.methodLink RX3 76 yX3_allStrips ∈ gw_T := in_gc_5 _ (List.mem_of_getElem? (i := 4) rfl)
theorem wi_739 : Cond.instanceMethod yX3_allStrips ∈ gw_T := in_gc_5 _ (List.mem_of_getElem? (i := 5) rfl)
theorem wi_745 : Cond.methodLink RX3 103 yX3_leastHeight ∈ gw_T := in_gc_5 _ (List.mem_of_getElem? (i := 6) rfl)
theorem wi_760 : Cond.instanceMethod yX3_whyNot ∈ gw_T := in_gc_5 _ (List.mem_of_getElem? (i := 7) rfl)
theorem wi_762 : Cond.methodLink RX3 112 yX3_target ∈ gw_T := in_gc_5 _ (List.mem_of_getElem? (i := 8) rfl)
theorem wi_764 : Cond.instanceMethod yX3_target ∈ gw_T := in_gc_5 _ (List.mem_of_getElem? (i := 9) rfl)
theorem wi_766 : Cond.constantLong RX3 106 (2) ∈ gw_T := in_gc_5 _ (List.mem_of_getElem? (i := 10) rfl)
theorem wi_767 : Cond.methodLink RX3 108 yX3_hasStrip ∈ gw_T := in_gc_5 _ (List.mem_of_getElem? (i := 11) rfl)
theorem wi_771 : Cond.instanceMethod yX3_pass ∈ gw_T := in_gc_5 _ (List.mem_of_getElem? (i := 12) rfl)
theorem wi_786 : Cond.instanceMethod yX4_valueAt ∈ gw_T := in_gc_5 _ (List.mem_of_getElem? (i := 13) rfl)
theorem wi_788 : Cond.constantLong RX4 41 (-1) ∈ gw_T := in_gc_5 _ (List.mem_of_getElem? (i := 14) rfl)
theorem wi_789 : Cond.methodLink RX3 125 yX3_whyNot ∈ gw_T := in_gc_5 _ (List.mem_of_getElem? (i := 15) rfl)
theorem wi_790 : Cond.methodLink RX3 129 yX3_pass ∈ gw_T := in_gc_5 _ (List.mem_of_getElem? (i := 16) rfl)
theorem wi_849 : Cond.methodLink RX7 52 Lib.Math.min.name ∈ gw_T := in_gc_5 _ (List.mem_of_getElem? (i := 17) rfl)
theorem wi_856 : Cond.instanceMethod yX7_end ∈ gw_T := in_gc_5 _ (List.mem_of_getElem? (i := 18) rfl)
theorem wi_858 : Cond.methodLink RX7 67 Lib.Math.max.name ∈ gw_T := in_gc_5 _ (List.mem_of_getElem? (i := 19) rfl)
theorem wi_861 : Cond.instanceMethod yX7_first ∈ gw_T := in_gc_6 _ (List.mem_of_getElem? (i := 0) rfl)
theorem wi_876 : Cond.methodLink RX2 56 yX2_weightOf ∈ gw_T := in_gc_6 _ (List.mem_of_getElem? (i := 1) rfl)
theorem wi_878 : Cond.instanceMethod yX2_weightOf ∈ gw_T := in_gc_6 _ (List.mem_of_getElem? (i := 2) rfl)
theorem wi_880 : Cond.methodLink RX2 60 yX2_fillCaps ∈ gw_T := in_gc_6 _ (List.mem_of_getElem? (i := 3) rfl)
theorem wi_882 : Cond.instanceMethod yX2_fillCaps ∈ gw_T := in_gc_6 _ (List.mem_of_getElem? (i := 4) rfl)
theorem wi_884 : Cond.methodLink RX2 82 Lib.Math.max.name ∈ gw_T := in_gc_6 _ (List.mem_of_getElem? (i := 5) rfl)
theorem wi_886 : Cond.methodLink RX2 71 Lib.Math.min.name ∈ gw_T := in_gc_6 _ (List.mem_of_getElem? (i := 6) rfl)
theorem wi_887 : Cond.methodLink RX2 64 yX2_firstWorth ∈ gw_T := in_gc_6 _ (List.mem_of_getElem? (i := 7) rfl)
theorem wi_889 : Cond.instanceMethod yX2_firstWorth ∈ gw_T := in_gc_6 _ (List.mem_of_getElem? (i := 8) rfl)
theorem wi_897 : Cond.methodLink RX2 104 yX2_open ∈ gw_T := in_gc_6 _ (List.mem_of_getElem? (i := 9) rfl)
theorem wi_899 : Cond.instanceMethod yX2_open ∈ gw_T := in_gc_6 _ (List.mem_of_getElem? (i := 10) rfl)
theorem wi_901 : Cond.constantLong RX2 118 (15) ∈ gw_T := in_gc_6 _ (List.mem_of_getElem? (i := 11) rfl)
theorem wi_902 : Cond.methodLink RX2 108 yX2_couldBeWorth ∈ gw_T := in_gc_6 _ (List.mem_of_getElem? (i := 12) rfl)
theorem wi_904 : Cond.instanceMethod yX2_couldBeWorth ∈ gw_T := in_gc_6 _ (List.mem_of_getElem? (i := 13) rfl)
theorem wi_906 : Cond.methodLink RX2 112 yX2_fairScore ∈ gw_T := in_gc_6 _ (List.mem_of_getElem? (i := 14) rfl)
theorem wi_908 : Cond.instanceMethod yX2_fairScore ∈ gw_T := in_gc_6 _ (List.mem_of_getElem? (i := 15) rfl)
theorem wi_910 : Cond.methodLink RX2 124 yJ7_fill_53178 ∈ gw_T := in_gc_6 _ (List.mem_of_getElem? (i := 16) rfl)
theorem wi_911 : Cond.methodLink RX2 120 yX2_cutOf ∈ gw_T := in_gc_6 _ (List.mem_of_getElem? (i := 17) rfl)
theorem wi_913 : Cond.instanceMethod yX2_cutOf ∈ gw_T := in_gc_6 _ (List.mem_of_getElem? (i := 18) rfl)
theorem wi_915 : Cond.methodLink RX2 115 yX2_weighedScore ∈ gw_T := in_gc_6 _ (List.mem_of_getElem? (i := 19) rfl)
theorem wi_917 : Cond.instanceMethod yX2_weighedScore ∈ gw_T := in_gc_7 _ (List.mem_of_getElem? (i := 0) rfl)
theorem wi_962 : Cond.methodLink RX5 33 yJ7_fill_53178 ∈ gw_T := in_gc_7 _ (List.mem_of_getElem? (i := 1) rfl)
theorem wi_966 : Cond.methodLink RX5 59 yX5_weigh ∈ gw_T := in_gc_7 _ (List.mem_of_getElem? (i := 2) rfl)
theorem wi_968 : Cond.instanceMethod yX5_weigh ∈ gw_T := in_gc_7 _ (List.mem_of_getElem? (i := 3) rfl)
theorem wi_999 : Cond.methodLink RX1 50 yX1_packed ∈ gw_T := in_gc_7 _ (List.mem_of_getElem? (i := 4) rfl)
theorem wi_1000 : Cond.static yX1_packed ∈ gw_T := in_gc_7 _ (List.mem_of_getElem? (i := 5) rfl)
theorem wi_1002 : Cond.methodLink RX1 67 Lib.Math.min.name ∈ gw_T := in_gc_7 _ (List.mem_of_getElem? (i := 6) rfl)
theorem wi_1004 : Cond.methodLink RX1 54 yX1_keep ∈ gw_T := in_gc_7 _ (List.mem_of_getElem? (i := 7) rfl)
theorem wi_1006 : Cond.instanceMethod yX1_keep ∈ gw_T := in_gc_7 _ (List.mem_of_getElem? (i := 8) rfl)
theorem wi_1016 : Cond.methodLink RX0 18 yX0_look ∈ gw_T := in_gc_7 _ (List.mem_of_getElem? (i := 9) rfl)
theorem wi_1018 : Cond.instanceMethod yX0_look ∈ gw_T := in_gc_7 _ (List.mem_of_getElem? (i := 10) rfl)
theorem wi_1020 : Cond.methodLink RX0 40 yJ7_fill_53178 ∈ gw_T := in_gc_7 _ (List.mem_of_getElem? (i := 11) rfl)
theorem wi_1023 : Cond.methodLink RX0 32 yX0_canLight ∈ gw_T := in_gc_7 _ (List.mem_of_getElem? (i := 12) rfl)
theorem wi_1024 : Cond.static yX0_canLight ∈ gw_T := in_gc_7 _ (List.mem_of_getElem? (i := 13) rfl)
theorem wi_1026 : Cond.methodLink RX0 49 yJ6_numberOfTrailingZeros_0f7a4 ∈ gw_T := in_gc_7 _ (List.mem_of_getElem? (i := 14) rfl)
theorem wi_1027 : Cond.static yJ6_numberOfTrailingZeros_0f7a4 ∈ gw_T := in_gc_7 _ (List.mem_of_getElem? (i := 15) rfl)
theorem wi_1029 : Cond.constant "java/lang/Integer" 264 (65536) ∈ gw_T := in_gc_7 _ (List.mem_of_getElem? (i := 16) rfl)
theorem wi_1030 : Cond.methodLink RX0 36 yX0_leastBits ∈ gw_T := in_gc_7 _ (List.mem_of_getElem? (i := 17) rfl)
theorem wi_1032 : Cond.instanceMethod yX0_leastBits ∈ gw_T := in_gc_7 _ (List.mem_of_getElem? (i := 18) rfl)
theorem wi_1057 : Cond.instanceMethod yX1_explainNothing ∈ gw_T := in_gc_7 _ (List.mem_of_getElem? (i := 19) rfl)
theorem wi_1063 : Cond.methodLink RX1 84 yX1_explainNothing ∈ gw_T := in_gc_8 _ (List.mem_of_getElem? (i := 0) rfl)
theorem wi_1065 : Cond.methodLink RX1 91 yX1_leaves ∈ gw_T := in_gc_8 _ (List.mem_of_getElem? (i := 1) rfl)
theorem wi_1066 : Cond.static yX1_leaves ∈ gw_T := in_gc_8 _ (List.mem_of_getElem? (i := 2) rfl)
theorem wi_1071 : Cond.instanceMethod yX2_stripsHungOver ∈ gw_T := in_gc_8 _ (List.mem_of_getElem? (i := 3) rfl)
theorem wi_1117 : Cond.constantLong RX4 43 (-7) ∈ gw_T := in_gc_8 _ (List.mem_of_getElem? (i := 4) rfl)
theorem wi_1118 : Cond.methodLink RX4 45 yX4_cut ∈ gw_T := in_gc_8 _ (List.mem_of_getElem? (i := 5) rfl)
theorem wi_1120 : Cond.instanceMethod yX4_cut ∈ gw_T := in_gc_8 _ (List.mem_of_getElem? (i := 6) rfl)
theorem wi_165 : Cond.code yJ7_fill_53178 cJ7_fill_53178 4 none ∈ gw_T := in_gc_9 _ (List.mem_of_getElem? (i := 0) rfl)
theorem wi_525 : Cond.code Lib.Math.min.name Lib.Math.min.code 2 (some .int) ∈ gw_T := in_gc_9 _ (List.mem_of_getElem? (i := 1) rfl)
theorem wi_528 : Cond.code Lib.Math.max.name Lib.Math.max.code 2 (some .int) ∈ gw_T := in_gc_9 _ (List.mem_of_getElem? (i := 2) rfl)
theorem wi_669 : Cond.code yX3_hasStrip cX3_hasStrip 2 (some .boolean) ∈ gw_T := in_gc_9 _ (List.mem_of_getElem? (i := 3) rfl)
theorem wi_673 : Cond.code yX3_lightOf cX3_lightOf 4 (some .int) ∈ gw_T := in_gc_9 _ (List.mem_of_getElem? (i := 4) rfl)
theorem wi_677 : Cond.code yX3_unshadedLight cX3_unshadedLight 3 (some .int) ∈ gw_T := in_gc_9 _ (List.mem_of_getElem? (i := 5) rfl)
theorem wi_680 : Cond.code Lib.Math.abs.name Lib.Math.abs.code 1 (some .int) ∈ gw_T := in_gc_9 _ (List.mem_of_getElem? (i := 6) rfl)
theorem wi_685 : Cond.code yX3_isShaded cX3_isShaded 6 (some .boolean) ∈ gw_T := in_gc_9 _ (List.mem_of_getElem? (i := 7) rfl)
theorem wi_711 : Cond.code yX3_litFrom cX3_litFrom 4 (some .int) ∈ gw_T := in_gc_9 _ (List.mem_of_getElem? (i := 8) rfl)
theorem wi_728 : Cond.code yX3_leastHeight cX3_leastHeight 9 (some .int) ∈ gw_T := in_gc_9 _ (List.mem_of_getElem? (i := 9) rfl)
theorem wi_740 : Cond.code yX3_allStrips cX3_allStrips 1 (some .int) ∈ gw_T := in_gc_9 _ (List.mem_of_getElem? (i := 10) rfl)
theorem wi_761 : Cond.code yX3_whyNot cX3_whyNot 3 (some .int) ∈ gw_T := in_gc_9 _ (List.mem_of_getElem? (i := 11) rfl)
theorem wi_765 : Cond.code yX3_target cX3_target 5 (some .int) ∈ gw_T := in_gc_10 _ (List.mem_of_getElem? (i := 0) rfl)
theorem wi_772 : Cond.code yX3_pass cX3_pass 6 (some .int) ∈ gw_T := in_gc_10 _ (List.mem_of_getElem? (i := 1) rfl)
theorem wi_787 : Cond.code yX4_valueAt cX4_valueAt 2 (some .long) ∈ gw_T := in_gc_10 _ (List.mem_of_getElem? (i := 2) rfl)
theorem wi_857 : Cond.code yX7_end cX7_end 2 (some .int) ∈ gw_T := in_gc_10 _ (List.mem_of_getElem? (i := 3) rfl)
theorem wi_862 : Cond.code yX7_first cX7_first 2 (some .int) ∈ gw_T := in_gc_10 _ (List.mem_of_getElem? (i := 4) rfl)
theorem wi_879 : Cond.code yX2_weightOf cX2_weightOf 3 (some .int) ∈ gw_T := in_gc_10 _ (List.mem_of_getElem? (i := 5) rfl)
theorem wi_883 : Cond.code yX2_fillCaps cX2_fillCaps 6 none ∈ gw_T := in_gc_10 _ (List.mem_of_getElem? (i := 6) rfl)
theorem wi_890 : Cond.code yX2_firstWorth cX2_firstWorth 4 (some .int) ∈ gw_T := in_gc_10 _ (List.mem_of_getElem? (i := 7) rfl)
theorem wi_900 : Cond.code yX2_open cX2_open 7 none ∈ gw_T := in_gc_10 _ (List.mem_of_getElem? (i := 8) rfl)
theorem wi_905 : Cond.code yX2_couldBeWorth cX2_couldBeWorth 3 (some .int) ∈ gw_T := in_gc_10 _ (List.mem_of_getElem? (i := 9) rfl)
theorem wi_909 : Cond.code yX2_fairScore cX2_fairScore 4 (some .int) ∈ gw_T := in_gc_10 _ (List.mem_of_getElem? (i := 10) rfl)
theorem wi_914 : Cond.code yX2_cutOf cX2_cutOf 5 (some .int) ∈ gw_T := in_gc_10 _ (List.mem_of_getElem? (i := 11) rfl)
theorem wi_918 : Cond.code yX2_weighedScore cX2_weighedScore 3 (some .int) ∈ gw_T := in_gc_11 _ (List.mem_of_getElem? (i := 0) rfl)
theorem wi_969 : Cond.code yX5_weigh cX5_weigh 9 none ∈ gw_T := in_gc_11 _ (List.mem_of_getElem? (i := 1) rfl)
theorem wi_1001 : Cond.code yX1_packed cX1_packed 6 (some .long) ∈ gw_T := in_gc_11 _ (List.mem_of_getElem? (i := 2) rfl)
theorem wi_1007 : Cond.code yX1_keep cX1_keep 6 none ∈ gw_T := in_gc_11 _ (List.mem_of_getElem? (i := 3) rfl)
theorem wi_1019 : Cond.code yX0_look cX0_look 4 none ∈ gw_T := in_gc_11 _ (List.mem_of_getElem? (i := 4) rfl)
theorem wi_1025 : Cond.code yX0_canLight cX0_canLight 8 (some .boolean) ∈ gw_T := in_gc_11 _ (List.mem_of_getElem? (i := 5) rfl)
theorem wi_1028 : Cond.code yJ6_numberOfTrailingZeros_0f7a4 cJ6_numberOfTrailingZeros_0f7a4 2 (some .int) ∈ gw_T := in_gc_11 _ (List.mem_of_getElem? (i := 6) rfl)
theorem wi_1033 : Cond.code yX0_leastBits cX0_leastBits 8 (some .int) ∈ gw_T := in_gc_11 _ (List.mem_of_getElem? (i := 7) rfl)
theorem wi_1058 : Cond.code yX1_explainNothing cX1_explainNothing 1 none ∈ gw_T := in_gc_11 _ (List.mem_of_getElem? (i := 8) rfl)
theorem wi_1067 : Cond.code yX1_leaves cX1_leaves 3 (some .boolean) ∈ gw_T := in_gc_11 _ (List.mem_of_getElem? (i := 9) rfl)
theorem wi_1072 : Cond.code yX2_stripsHungOver cX2_stripsHungOver 3 (some .int) ∈ gw_T := in_gc_11 _ (List.mem_of_getElem? (i := 10) rfl)
theorem wi_1121 : Cond.code yX4_cut cX4_cut 3 (some .long) ∈ gw_T := in_gc_11 _ (List.mem_of_getElem? (i := 11) rfl)
theorem fm_in {ws : List Cond} (ps : List Nat) (hp : ws = ps.filterMap (fun i => lw_tbl[i]?)) : ∀ w ∈ ws, w ∈ lw_tbl := by
  intro w hw
  rw [hp] at hw
  obtain ⟨i, -, hi⟩ := List.mem_filterMap.mp hw
  exact List.mem_of_getElem? hi
set_option maxRecDepth 100000 in
theorem lt_gl_0 : ∀ w ∈ gl_0, w ∈ lw_tbl := fm_in [441, 443] (by decide +kernel)
set_option maxRecDepth 100000 in
theorem lt_gl_1 : ∀ w ∈ gl_1, w ∈ lw_tbl := fm_in [422, 424, 426, 428, 430] (by decide +kernel)
set_option maxRecDepth 100000 in
theorem lt_gl_2 : ∀ w ∈ gl_2, w ∈ lw_tbl := fm_in [363, 365, 367, 369, 371, 373, 375, 377, 379, 381, 383] (by decide +kernel)
set_option maxRecDepth 100000 in
theorem lt_gl_3 : ∀ w ∈ gl_3, w ∈ lw_tbl := fm_in [217, 219, 221, 223, 225, 227, 229, 231, 233, 235, 237, 239, 241, 243, 245, 247] (by decide +kernel)
set_option maxRecDepth 100000 in
theorem lt_gl_4 : ∀ w ∈ gl_4, w ∈ lw_tbl := fm_in [458, 460, 462, 464] (by decide +kernel)
set_option maxRecDepth 100000 in
theorem lt_gl_5 : ∀ w ∈ gl_5, w ∈ lw_tbl := fm_in [398, 400, 402, 404, 406] (by decide +kernel)
set_option maxRecDepth 100000 in
theorem lt_gl_6 : ∀ w ∈ gl_6, w ∈ lw_tbl := fm_in [264, 266, 268, 270, 272, 274, 276, 278, 280] (by decide +kernel)
set_option maxRecDepth 100000 in
theorem lt_gl_7 : ∀ w ∈ gl_7, w ∈ lw_tbl := fm_in [313, 315, 317, 319, 321, 323, 325, 327, 329, 331, 333] (by decide +kernel)
set_option maxRecDepth 100000 in
theorem lt_gl_8 : ∀ w ∈ gl_8, w ∈ lw_tbl := fm_in [480, 482, 484, 486, 488, 490, 492, 494, 496, 498, 500, 502, 504] (by decide +kernel)
set_option maxRecDepth 100000 in
theorem lt_gl_9 : ∀ w ∈ gl_9, w ∈ lw_tbl := fm_in [1187, 1189, 1191, 1193, 1195, 1197, 1199, 1201, 1203, 1205, 1207, 1209, 1211, 1213, 1215, 1217, 1219, 1221, 1223, 1225, 1227, 1229, 1231, 1233, 1235, 1237, 1239, 1241, 1243, 1245, 1247, 1249, 1251, 1253, 1255, 1257, 1259] (by decide +kernel)
set_option maxRecDepth 100000 in
theorem lt_gc_0 : ∀ w ∈ gc_0, w ∈ lw_tbl := fm_in [18, 19, 20, 21, 24, 26, 28, 30, 31, 32, 34, 43, 44, 48, 49, 50, 52, 53, 54, 55] (by decide +kernel)
set_option maxRecDepth 100000 in
theorem lt_gc_1 : ∀ w ∈ gc_1, w ∈ lw_tbl := fm_in [56, 61, 64, 66, 67, 70, 72, 77, 123, 124, 125, 126, 127, 128, 129, 130, 132, 133, 138, 163] (by decide +kernel)
set_option maxRecDepth 100000 in
theorem lt_gc_2 : ∀ w ∈ gc_2, w ∈ lw_tbl := fm_in [164, 166, 173, 176, 178, 181, 184, 187, 190, 193, 196, 199, 203, 206, 208, 211, 213, 302, 308, 311] (by decide +kernel)
set_option maxRecDepth 100000 in
theorem lt_gc_3 : ∀ w ∈ gc_3, w ∈ lw_tbl := fm_in [346, 349, 350, 351, 354, 355, 356, 357, 358, 359, 361, 392, 393, 394, 395, 396, 415, 416, 417, 418] (by decide +kernel)
set_option maxRecDepth 100000 in
theorem lt_gc_4 : ∀ w ∈ gc_4, w ∈ lw_tbl := fm_in [420, 439, 440, 453, 454, 457, 524, 527, 530, 531, 657, 668, 672, 674, 676, 678, 679, 681, 682, 684] (by decide +kernel)
set_option maxRecDepth 100000 in
theorem lt_gc_5 : ∀ w ∈ gc_5, w ∈ lw_tbl := fm_in [686, 710, 712, 727, 737, 739, 745, 760, 762, 764, 766, 767, 771, 786, 788, 789, 790, 849, 856, 858] (by decide +kernel)
set_option maxRecDepth 100000 in
theorem lt_gc_6 : ∀ w ∈ gc_6, w ∈ lw_tbl := fm_in [861, 876, 878, 880, 882, 884, 886, 887, 889, 897, 899, 901, 902, 904, 906, 908, 910, 911, 913, 915] (by decide +kernel)
set_option maxRecDepth 100000 in
theorem lt_gc_7 : ∀ w ∈ gc_7, w ∈ lw_tbl := fm_in [917, 962, 966, 968, 999, 1000, 1002, 1004, 1006, 1016, 1018, 1020, 1023, 1024, 1026, 1027, 1029, 1030, 1032, 1057] (by decide +kernel)
set_option maxRecDepth 100000 in
theorem lt_gc_8 : ∀ w ∈ gc_8, w ∈ lw_tbl := fm_in [1063, 1065, 1066, 1071, 1117, 1118, 1120] (by decide +kernel)
set_option maxRecDepth 100000 in
theorem lt_gc_9 : ∀ w ∈ gc_9, w ∈ lw_tbl := fm_in [165, 525, 528, 669, 673, 677, 680, 685, 711, 728, 740, 761] rfl
set_option maxRecDepth 100000 in
theorem lt_gc_10 : ∀ w ∈ gc_10, w ∈ lw_tbl := fm_in [765, 772, 787, 857, 862, 879, 883, 890, 900, 905, 909, 914] rfl
set_option maxRecDepth 100000 in
theorem lt_gc_11 : ∀ w ∈ gc_11, w ∈ lw_tbl := fm_in [918, 969, 1001, 1007, 1019, 1025, 1028, 1033, 1058, 1067, 1072, 1121] rfl
theorem gw_in : ∀ w ∈ gw_T, w ∈ lw_tbl := List.forall_mem_append.mpr ⟨lt_gl_0, List.forall_mem_append.mpr ⟨lt_gl_1, List.forall_mem_append.mpr ⟨lt_gl_2, List.forall_mem_append.mpr ⟨lt_gl_3, List.forall_mem_append.mpr ⟨lt_gl_4, List.forall_mem_append.mpr ⟨lt_gl_5, List.forall_mem_append.mpr ⟨lt_gl_6, List.forall_mem_append.mpr ⟨lt_gl_7, List.forall_mem_append.mpr ⟨lt_gl_8, List.forall_mem_append.mpr ⟨lt_gl_9, List.forall_mem_append.mpr ⟨lt_gc_0, List.forall_mem_append.mpr ⟨lt_gc_1, List.forall_mem_append.mpr ⟨lt_gc_2, List.forall_mem_append.mpr ⟨lt_gc_3, List.forall_mem_append.mpr ⟨lt_gc_4, List.forall_mem_append.mpr ⟨lt_gc_5, List.forall_mem_append.mpr ⟨lt_gc_6, List.forall_mem_append.mpr ⟨lt_gc_7, List.forall_mem_append.mpr ⟨lt_gc_8, List.forall_mem_append.mpr ⟨lt_gc_9, List.forall_mem_append.mpr ⟨lt_gc_10, lt_gc_11⟩⟩⟩⟩⟩⟩⟩⟩⟩⟩⟩⟩⟩⟩⟩⟩⟩⟩⟩⟩⟩
def gn_T : List Cond := [Cond.fieldLinkNest RX2 50 "RopeMoon$Plain" "strips" "I" RX8, Cond.fieldLinkNest RX0 28 "RopeMoon$Plain" "strips" "I" RX8, Cond.fieldLinkNest RX5 67 "RopeMoon$Plain" "strips" "I" RX8, Cond.fieldLinkNest RX1 62 "RopeMoon$Plain" "strips" "I" RX8, Cond.fieldLinkNest RX1 73 "RopeMoon$Plain" "crops" "[I" RX8, Cond.fieldLinkNest RX2 68 "RopeMoon$Plain" "crops" "[I" RX8, Cond.fieldLinkNest RX2 79 "RopeMoon$Plain" "reapers" "[I" RX8, Cond.fieldLinkNest RX2 53 "RopeMoon$Plain" "farms" "[I" RX8, Cond.fieldLinkNest RX2 76 "RopeMoon$Plain" "bids" "[I" RX8, Cond.fieldLinkNest RX1 41 "RopeMoon$Walks" "hangs" "[J" RX8, Cond.fieldLinkNest RX5 51 "RopeMoon$Walks" "hangs" "[J" RX8, Cond.fieldLinkNest RX2 100 "RopeMoon$Walks" "hangs" "[J" RX8, Cond.fieldLinkNest RX1 95 "RopeMoon$Walks" "ways" "[I" RX8, Cond.fieldLinkNest RX1 37 "RopeMoon$Walks" "twin" "[Z" RX8, Cond.fieldLinkNest RX5 47 "RopeMoon$Walks" "twin" "[Z" RX8, Cond.fieldLinkNest RX2 96 "RopeMoon$Walks" "twin" "[Z" RX8, Cond.fieldLinkNest RX5 63 "RopeMoon$Harvest" "over" "LRopeMoon$Plain;" RX8, Cond.fieldLinkNest RX1 58 "RopeMoon$Harvest" "over" "LRopeMoon$Plain;" RX8, Cond.fieldLinkNest RX5 73 "RopeMoon$Harvest" "caps" "[I" RX8, Cond.fieldLinkNest RX1 77 "RopeMoon$Harvest" "caps" "[I" RX8, Cond.fieldLinkNest RX3 116 "RopeMoon$Row" "size" "I" RX8, Cond.methodLinkNest RX3 121 yX4_valueAt RX8, Cond.methodLinkNest RX2 85 yX3_lightOf RX8, Cond.methodLinkNest RX2 88 yX7_end RX8, Cond.methodLinkNest RX2 93 yX7_first RX8, Cond.methodLinkNest RX5 27 yX2_fillCaps RX8, Cond.methodLinkNest RX5 38 yX7_end RX8, Cond.methodLinkNest RX5 44 yX7_first RX8, Cond.methodLinkNest RX5 55 yX2_open RX8, Cond.methodLinkNest RX5 76 yX2_cutOf RX8, Cond.methodLinkNest RX1 28 yX7_end RX8, Cond.methodLinkNest RX1 34 yX7_first RX8, Cond.methodLinkNest RX1 44 yX2_open RX8, Cond.methodLinkNest RX1 80 yX2_cutOf RX8, Cond.methodLinkNest RX0 46 yX3_litFrom RX8, Cond.methodLinkNest RX0 22 yX3_allStrips RX8, Cond.methodLinkNest RX1 87 yX3_allStrips RX8, Cond.methodLinkNest RX1 101 yX4_valueAt RX8, Cond.methodLinkNest RX1 98 yX2_stripsHungOver RX8]
theorem ni_167 : Cond.fieldLinkNest RX2 50 "RopeMoon$Plain" "strips" "I" RX8 ∈ gn_T := List.mem_of_getElem? (i := 0) rfl
theorem ni_168 : Cond.fieldLinkNest RX0 28 "RopeMoon$Plain" "strips" "I" RX8 ∈ gn_T := List.mem_of_getElem? (i := 1) rfl
theorem ni_169 : Cond.fieldLinkNest RX5 67 "RopeMoon$Plain" "strips" "I" RX8 ∈ gn_T := List.mem_of_getElem? (i := 2) rfl
theorem ni_170 : Cond.fieldLinkNest RX1 62 "RopeMoon$Plain" "strips" "I" RX8 ∈ gn_T := List.mem_of_getElem? (i := 3) rfl
theorem ni_200 : Cond.fieldLinkNest RX1 73 "RopeMoon$Plain" "crops" "[I" RX8 ∈ gn_T := List.mem_of_getElem? (i := 4) rfl
theorem ni_201 : Cond.fieldLinkNest RX2 68 "RopeMoon$Plain" "crops" "[I" RX8 ∈ gn_T := List.mem_of_getElem? (i := 5) rfl
theorem ni_204 : Cond.fieldLinkNest RX2 79 "RopeMoon$Plain" "reapers" "[I" RX8 ∈ gn_T := List.mem_of_getElem? (i := 6) rfl
theorem ni_209 : Cond.fieldLinkNest RX2 53 "RopeMoon$Plain" "farms" "[I" RX8 ∈ gn_T := List.mem_of_getElem? (i := 7) rfl
theorem ni_214 : Cond.fieldLinkNest RX2 76 "RopeMoon$Plain" "bids" "[I" RX8 ∈ gn_T := List.mem_of_getElem? (i := 8) rfl
theorem ni_295 : Cond.fieldLinkNest RX1 41 "RopeMoon$Walks" "hangs" "[J" RX8 ∈ gn_T := List.mem_of_getElem? (i := 9) rfl
theorem ni_296 : Cond.fieldLinkNest RX5 51 "RopeMoon$Walks" "hangs" "[J" RX8 ∈ gn_T := List.mem_of_getElem? (i := 10) rfl
theorem ni_297 : Cond.fieldLinkNest RX2 100 "RopeMoon$Walks" "hangs" "[J" RX8 ∈ gn_T := List.mem_of_getElem? (i := 11) rfl
theorem ni_301 : Cond.fieldLinkNest RX1 95 "RopeMoon$Walks" "ways" "[I" RX8 ∈ gn_T := List.mem_of_getElem? (i := 12) rfl
theorem ni_304 : Cond.fieldLinkNest RX1 37 "RopeMoon$Walks" "twin" "[Z" RX8 ∈ gn_T := List.mem_of_getElem? (i := 13) rfl
theorem ni_305 : Cond.fieldLinkNest RX5 47 "RopeMoon$Walks" "twin" "[Z" RX8 ∈ gn_T := List.mem_of_getElem? (i := 14) rfl
theorem ni_306 : Cond.fieldLinkNest RX2 96 "RopeMoon$Walks" "twin" "[Z" RX8 ∈ gn_T := List.mem_of_getElem? (i := 15) rfl
theorem ni_347 : Cond.fieldLinkNest RX5 63 "RopeMoon$Harvest" "over" "LRopeMoon$Plain;" RX8 ∈ gn_T := List.mem_of_getElem? (i := 16) rfl
theorem ni_348 : Cond.fieldLinkNest RX1 58 "RopeMoon$Harvest" "over" "LRopeMoon$Plain;" RX8 ∈ gn_T := List.mem_of_getElem? (i := 17) rfl
theorem ni_352 : Cond.fieldLinkNest RX5 73 "RopeMoon$Harvest" "caps" "[I" RX8 ∈ gn_T := List.mem_of_getElem? (i := 18) rfl
theorem ni_353 : Cond.fieldLinkNest RX1 77 "RopeMoon$Harvest" "caps" "[I" RX8 ∈ gn_T := List.mem_of_getElem? (i := 19) rfl
theorem ni_456 : Cond.fieldLinkNest RX3 116 "RopeMoon$Row" "size" "I" RX8 ∈ gn_T := List.mem_of_getElem? (i := 20) rfl
theorem ni_784 : Cond.methodLinkNest RX3 121 yX4_valueAt RX8 ∈ gn_T := List.mem_of_getElem? (i := 21) rfl
theorem ni_885 : Cond.methodLinkNest RX2 85 yX3_lightOf RX8 ∈ gn_T := List.mem_of_getElem? (i := 22) rfl
theorem ni_895 : Cond.methodLinkNest RX2 88 yX7_end RX8 ∈ gn_T := List.mem_of_getElem? (i := 23) rfl
theorem ni_896 : Cond.methodLinkNest RX2 93 yX7_first RX8 ∈ gn_T := List.mem_of_getElem? (i := 24) rfl
theorem ni_961 : Cond.methodLinkNest RX5 27 yX2_fillCaps RX8 ∈ gn_T := List.mem_of_getElem? (i := 25) rfl
theorem ni_963 : Cond.methodLinkNest RX5 38 yX7_end RX8 ∈ gn_T := List.mem_of_getElem? (i := 26) rfl
theorem ni_964 : Cond.methodLinkNest RX5 44 yX7_first RX8 ∈ gn_T := List.mem_of_getElem? (i := 27) rfl
theorem ni_965 : Cond.methodLinkNest RX5 55 yX2_open RX8 ∈ gn_T := List.mem_of_getElem? (i := 28) rfl
theorem ni_970 : Cond.methodLinkNest RX5 76 yX2_cutOf RX8 ∈ gn_T := List.mem_of_getElem? (i := 29) rfl
theorem ni_996 : Cond.methodLinkNest RX1 28 yX7_end RX8 ∈ gn_T := List.mem_of_getElem? (i := 30) rfl
theorem ni_997 : Cond.methodLinkNest RX1 34 yX7_first RX8 ∈ gn_T := List.mem_of_getElem? (i := 31) rfl
theorem ni_998 : Cond.methodLinkNest RX1 44 yX2_open RX8 ∈ gn_T := List.mem_of_getElem? (i := 32) rfl
theorem ni_1003 : Cond.methodLinkNest RX1 80 yX2_cutOf RX8 ∈ gn_T := List.mem_of_getElem? (i := 33) rfl
theorem ni_1021 : Cond.methodLinkNest RX0 46 yX3_litFrom RX8 ∈ gn_T := List.mem_of_getElem? (i := 34) rfl
theorem ni_1022 : Cond.methodLinkNest RX0 22 yX3_allStrips RX8 ∈ gn_T := List.mem_of_getElem? (i := 35) rfl
theorem ni_1064 : Cond.methodLinkNest RX1 87 yX3_allStrips RX8 ∈ gn_T := List.mem_of_getElem? (i := 36) rfl
theorem ni_1068 : Cond.methodLinkNest RX1 101 yX4_valueAt RX8 ∈ gn_T := List.mem_of_getElem? (i := 37) rfl
theorem ni_1069 : Cond.methodLinkNest RX1 98 yX2_stripsHungOver RX8 ∈ gn_T := List.mem_of_getElem? (i := 38) rfl
set_option maxRecDepth 100000 in
theorem gn_in : ∀ w ∈ gn_T, w ∈ lw_tbl := by
  have hp : gn_T = ([167, 168, 169, 170, 200, 201, 204, 209, 214, 295, 296, 297, 301, 304, 305, 306, 347, 348, 352, 353, 456, 784, 885, 895, 896, 961, 963, 964, 965, 970, 996, 997, 998, 1003, 1021, 1022, 1064, 1068, 1069] : List Nat).filterMap (fun i => lw_tbl[i]?) := by decide +kernel
  intro w hw
  rw [hp] at hw
  obtain ⟨i, -, hi⟩ := List.mem_filterMap.mp hw
  exact List.mem_of_getElem? hi
