/-! worlds, methods, links, by program out of the tables' words -/
def zw0 : List zDesc := [.inr (.inr (11, [3, 16, 39, 62, 0, 85, 97, 100, 0, 101, 106, 107, 108, 109, 110, 1])), .inr (.inl (3, [2, 4, 6, 8, 10, 12])), .inr (.inr (2, [0, 0, 5, 0, 0])), .inl (0, 30), .inr (.inr (0, [0, 0, 7, 0, 0])), .inl (0, 30), .inr (.inr (8, [0, 0, 9, 0, 0])), .inl (0, 30), .inr (.inr (9, [0, 0, 11, 0, 0])), .inl (0, 30), .inr (.inr (1, [0, 0, 13, 0, 0])), .inl (0, 30), .inr (.inr (3, [0, 0, 15, 0, 0])), .inl (0, 30), .inr (.inr (10, [17, 18, 19, 20, 21, 22, 23, 24, 25, 33, 0, 0, 0, 0, 0, 0, 0, 0])), .inl (0, 6), .inl (0, 6), .inl (0, 6), .inl (0, 6), .inl (0, 6), .inl (0, 6), .inl (0, 6), .inl (0, 16), .inr (.inr (7, [26, 27, 28, 29, 30, 31, 32, 0, 0])), .inl (0, 8), .inl (0, 8), .inl (0, 8), .inl (0, 100), .inl (0, 100), .inl (0, 100), .inl (0, 5), .inr (.inr (5, [34, 35, 36, 37, 0, 0, 38, 0])), .inl (0, 6), .inl (0, 6), .inl (0, 6), .inl (0, 6), .inl (0, 3), .inr (.inr (10, [40, 41, 42, 43, 44, 45, 46, 47, 48, 56, 0, 0, 0, 0, 0, 0, 0, 0])), .inl (0, 6), .inl (0, 6), .inl (0, 6), .inl (0, 6), .inl (0, 6), .inl (0, 6), .inl (0, 6), .inl (0, 16), .inr (.inr (7, [49, 50, 51, 52, 53, 54, 55, 0, 0])), .inl (0, 8), .inl (0, 8), .inl (0, 8), .inl (0, 100), .inl (0, 100), .inl (0, 100), .inl (0, 5), .inr (.inr (5, [57, 58, 59, 60, 0, 0, 61, 0])), .inl (0, 6), .inl (0, 6), .inl (0, 6), .inl (0, 6), .inl (0, 3), .inr (.inr (10, [63, 64, 65, 66, 67, 68, 69, 70, 71, 79, 0, 0, 0, 0, 0, 0, 0, 0])), .inl (0, 6), .inl (0, 6), .inl (0, 6), .inl (0, 6), .inl (0, 6), .inl (0, 6), .inl (0, 6), .inl (0, 16), .inr (.inr (7, [72, 73, 74, 75, 76, 77, 78, 0, 0])), .inl (0, 8), .inl (0, 8), .inl (0, 8), .inl (0, 100), .inl (0, 100), .inl (0, 100), .inl (0, 5), .inr (.inr (5, [80, 81, 82, 83, 0, 0, 84, 0])), .inl (0, 6), .inl (0, 6), .inl (0, 6), .inl (0, 6), .inl (0, 3), .inr (.inr (6, [86, 0, 87, 88, 89, 0, 0])), .inl (0, 200), .inl (0, 201), .inl (0, 201), .inr (.inr (7, [90, 91, 92, 93, 94, 95, 96, 0, 0])), .inl (0, 8), .inl (0, 8), .inl (0, 8), .inl (0, 100), .inl (0, 100), .inl (0, 100), .inl (0, 5), .inr (.inr (4, [0, 0, 0, 0, 0, 0, 98, 99, 0])), .inl (0, 4), .inl (0, 4), .inl (0, 12), .inr (.inl (4, [100, 101, 102, 103])), .inl (1, 40), .inl (1, 40), .inl (1, 40), .inl (1, 40), .inl (0, 4), .inl (0, 4), .inl (0, 4), .inl (0, 4), .inl (0, 4)]
def zw1 : List zDesc := [.inr (.inr (12, [3, 4, 5, 0, 6, 7, 0, 8, 0, 0, 0, 0, 0, 0, 9, 10, 0, 0, 11, 12, 13, 0, 0, 0, 0, 14, 15, 0, 16, 0, 17, 18, 19, 20, 21, 22, 0, 0, 0])), .inl (0, 322), .inl (0, 322), .inl (0, 74), .inl (0, 200), .inl (0, 200), .inl (2, 144), .inl (0, 200), .inl (0, 24), .inl (0, 370), .inl (0, 4), .inl (0, 4), .inl (0, 16), .inl (0, 16), .inl (0, 12), .inl (0, 4), .inl (0, 4), .inl (0, 160), .inl (0, 4), .inl (0, 4), .inl (0, 30)]
abbrev mX0_knocks : zMI := (yX0_knocks, cX0_knocks, 2, (some .int))
theorem ce_X0_knocks : zCe mX0_knocks 1 := ⟨zm5 42 rfl rfl, by decide, by decide +kernel, by decide +kernel, by decide +kernel⟩
abbrev mX1_counts : zMI := (yX1_counts, cX1_counts, 2, (some .int))
theorem ce_X1_counts : zCe mX1_counts 1 := ⟨zm5 97 rfl rfl, by decide, by decide +kernel, by decide +kernel, by decide +kernel⟩
abbrev mX2_become : zMI := (yX2_become, cX2_become, 3, none)
theorem ce_X2_become : zCe mX2_become 2 := ⟨zm5 35 rfl rfl, by decide, by decide +kernel, by decide +kernel, by decide +kernel⟩
abbrev mX2_begin : zMI := (yX2_begin, cX2_begin, 2, none)
theorem ce_X2_begin : zCe mX2_begin 1 := ⟨zm5 48 rfl rfl, by decide, by decide +kernel, by decide +kernel, by decide +kernel⟩
abbrev mX2_knocks : zMI := (yX2_knocks, cX2_knocks, 2, (some .int))
theorem ce_X2_knocks : zCe mX2_knocks 1 := ⟨zm5 62 rfl rfl, by decide, by decide +kernel, by decide +kernel, by decide +kernel⟩
abbrev mX2_waits : zMI := (yX2_waits, cX2_waits, 2, (some .int))
theorem ce_X2_waits : zCe mX2_waits 1 := ⟨zm5 88 rfl rfl, by decide, by decide +kernel, by decide +kernel, by decide +kernel⟩
abbrev mX2_counts : zMI := (yX2_counts, cX2_counts, 3, (some .int))
theorem ce_X2_counts : zCe mX2_counts 1 := ⟨zm5 112 rfl rfl, by decide, by decide +kernel, by decide +kernel, by decide +kernel⟩
abbrev mX2_sits : zMI := (yX2_sits, cX2_sits, 3, (some .int))
theorem ce_X2_sits : zCe mX2_sits 1 := ⟨zm5 131 rfl rfl, by decide, by decide +kernel, by decide +kernel, by decide +kernel⟩
abbrev mX3_waits : zMI := (yX3_waits, cX3_waits, 2, (some .int))
theorem ce_X3_waits : zCe mX3_waits 1 := ⟨zm5 72 rfl rfl, by decide, by decide +kernel, by decide +kernel, by decide +kernel⟩
abbrev mX3_counts : zMI := (yX3_counts, cX3_counts, 3, (some .int))
theorem ce_X3_counts : zCe mX3_counts 1 := ⟨zm5 105 rfl rfl, by decide, by decide +kernel, by decide +kernel, by decide +kernel⟩
abbrev mX4_lookAll : zMI := (yX4_lookAll, cX4_lookAll, 4, none)
theorem ce_X4_lookAll : zCe mX4_lookAll 3 := ⟨zm4 67 rfl rfl, by decide, by decide +kernel, by decide +kernel, by decide +kernel⟩
abbrev mX4_look : zMI := (yX4_look, cX4_look, 11, none)
theorem ce_X4_look : zCe mX4_look 5 := ⟨zm4 72 rfl rfl, by decide, by decide +kernel, by decide +kernel, by decide +kernel⟩
abbrev mX4_takeIn : zMI := (yX4_takeIn, cX4_takeIn, 4, none)
theorem ce_X4_takeIn : zCe mX4_takeIn 3 := ⟨zm4 76 rfl rfl, by decide, by decide +kernel, by decide +kernel, by decide +kernel⟩
abbrev mX4_playOut : zMI := (yX4_playOut, cX4_playOut, 3, (some .int))
theorem ce_X4_playOut : zCe mX4_playOut 2 := ⟨zm4 113 rfl rfl, by decide, by decide +kernel, by decide +kernel, by decide +kernel⟩
abbrev mX4_playOn : zMI := (yX4_playOn, cX4_playOn, 12, (some .int))
theorem ce_X4_playOn : zCe mX4_playOn 4 := ⟨zm4 116 rfl rfl, by decide, by decide +kernel, by decide +kernel, by decide +kernel⟩
abbrev mX5_become : zMI := (yX5_become, cX5_become, 2, none)
theorem ce_X5_become : zCe mX5_become 1 := ⟨zm3 233 rfl rfl, by decide, by decide +kernel, by decide +kernel, by decide +kernel⟩
abbrev mX5_add : zMI := (yX5_add, cX5_add, 5, (some .int))
theorem ce_X5_add : zCe mX5_add 4 := ⟨zm4 129 rfl rfl, by decide, by decide +kernel, by decide +kernel, by decide +kernel⟩
abbrev mX5_lookAll : zMI := (yX5_lookAll, cX5_lookAll, 5, none)
theorem ce_X5_lookAll : zCe mX5_lookAll 1 := ⟨zm4 141 rfl rfl, by decide, by decide +kernel, by decide +kernel, by decide +kernel⟩
abbrev mX5_takeIn : zMI := (yX5_takeIn, cX5_takeIn, 5, none)
theorem ce_X5_takeIn : zCe mX5_takeIn 4 := ⟨zm4 157 rfl rfl, by decide, by decide +kernel, by decide +kernel, by decide +kernel⟩
abbrev mX5_wrongBy : zMI := (yX5_wrongBy, cX5_wrongBy, 10, (some .int))
theorem ce_X5_wrongBy : zCe mX5_wrongBy 4 := ⟨zm4 145 rfl rfl, by decide, by decide +kernel, by decide +kernel, by decide +kernel⟩
abbrev mX5_wrongBehind : zMI := (yX5_wrongBehind, cX5_wrongBehind, 8, (some .int))
theorem ce_X5_wrongBehind : zCe mX5_wrongBehind 3 := ⟨zm4 149 rfl rfl, by decide, by decide +kernel, by decide +kernel, by decide +kernel⟩
abbrev mX6_takes : zMI := (yX6_takes, cX6_takes, 5, (some .boolean))
theorem ce_X6_takes : zCe mX6_takes 2 := ⟨zm3 67 rfl rfl, by decide, by decide +kernel, by decide +kernel, by decide +kernel⟩
abbrev mX6_tell : zMI := (yX6_tell, cX6_tell, 3, (some .int))
theorem ce_X6_tell : zCe mX6_tell 1 := ⟨zm3 76 rfl rfl, by decide, by decide +kernel, by decide +kernel, by decide +kernel⟩
abbrev mX6_divide : zMI := (yX6_divide, cX6_divide, 5, none)
theorem ce_X6_divide : zCe mX6_divide 0 := ⟨zm3 80 rfl rfl, by decide, by decide +kernel, by decide +kernel, by decide +kernel⟩
abbrev mX6_sortAt : zMI := (yX6_sortAt, cX6_sortAt, 3, (some .int))
theorem ce_X6_sortAt : zCe mX6_sortAt 1 := ⟨zm3 84 rfl rfl, by decide, by decide +kernel, by decide +kernel, by decide +kernel⟩
abbrev mX6_wordAt : zMI := (yX6_wordAt, cX6_wordAt, 7, (some .int))
theorem ce_X6_wordAt : zCe mX6_wordAt 1 := ⟨zm3 88 rfl rfl, by decide, by decide +kernel, by decide +kernel, by decide +kernel⟩
abbrev mX6_numberAt : zMI := (yX6_numberAt, cX6_numberAt, 5, (some .int))
theorem ce_X6_numberAt : zCe mX6_numberAt 1 := ⟨zm3 141 rfl rfl, by decide, by decide +kernel, by decide +kernel, by decide +kernel⟩
abbrev mX6_isNext : zMI := (yX6_isNext, cX6_isNext, 3, (some .boolean))
theorem ce_X6_isNext : zCe mX6_isNext 2 := ⟨zm3 145 rfl rfl, by decide, by decide +kernel, by decide +kernel, by decide +kernel⟩
abbrev mX6_pass : zMI := (yX6_pass, cX6_pass, 4, (some .int))
theorem ce_X6_pass : zCe mX6_pass 2 := ⟨zm3 153 rfl rfl, by decide, by decide +kernel, by decide +kernel, by decide +kernel⟩
abbrev mX6_readRule : zMI := (yX6_readRule, cX6_readRule, 3, none)
theorem ce_X6_readRule : zCe mX6_readRule 0 := ⟨zm3 149 rfl rfl, by decide, by decide +kernel, by decide +kernel, by decide +kernel⟩
abbrev mX6_readAny : zMI := (yX6_readAny, cX6_readAny, 3, none)
theorem ce_X6_readAny : zCe mX6_readAny 1 := ⟨zm3 157 rfl rfl, by decide, by decide +kernel, by decide +kernel, by decide +kernel⟩
abbrev mX6_readAll : zMI := (yX6_readAll, cX6_readAll, 3, none)
theorem ce_X6_readAll : zCe mX6_readAll 1 := ⟨zm3 161 rfl rfl, by decide, by decide +kernel, by decide +kernel, by decide +kernel⟩
abbrev mX6_readOne : zMI := (yX6_readOne, cX6_readOne, 5, none)
theorem ce_X6_readOne : zCe mX6_readOne 1 := ⟨zm3 165 rfl rfl, by decide, by decide +kernel, by decide +kernel, by decide +kernel⟩
abbrev mX6_readSide : zMI := (yX6_readSide, cX6_readSide, 1, (some .int))
theorem ce_X6_readSide : zCe mX6_readSide 0 := ⟨zm3 169 rfl rfl, by decide, by decide +kernel, by decide +kernel, by decide +kernel⟩
abbrev mX7_become : zMI := (yX7_become, cX7_become, 2, none)
theorem ce_X7_become : zCe mX7_become 1 := ⟨zm3 181 rfl rfl, by decide, by decide +kernel, by decide +kernel, by decide +kernel⟩
abbrev mX7_addStep : zMI := (yX7_addStep, cX7_addStep, 4, none)
theorem ce_X7_addStep : zCe mX7_addStep 3 := ⟨zm3 173 rfl rfl, by decide, by decide +kernel, by decide +kernel, by decide +kernel⟩
abbrev mX7_addRule : zMI := (yX7_addRule, cX7_addRule, 3, none)
theorem ce_X7_addRule : zCe mX7_addRule 2 := ⟨zm3 177 rfl rfl, by decide, by decide +kernel, by decide +kernel, by decide +kernel⟩
abbrev mX7_willOf : zMI := (yX7_willOf, cX7_willOf, 8, (some .int))
theorem ce_X7_willOf : zCe mX7_willOf 6 := ⟨zm2 212 rfl rfl, by decide, by decide +kernel, by decide +kernel, by decide +kernel⟩
abbrev mX7_holds : zMI := (yX7_holds, cX7_holds, 6, (some .boolean))
theorem ce_X7_holds : zCe mX7_holds 2 := ⟨zm2 219 rfl rfl, by decide, by decide +kernel, by decide +kernel, by decide +kernel⟩
abbrev mX7_side : zMI := (yX7_side, cX7_side, 2, (some .int))
theorem ce_X7_side : zCe mX7_side 1 := ⟨zm2 223 rfl rfl, by decide, by decide +kernel, by decide +kernel, by decide +kernel⟩
abbrev mX7_isTrue : zMI := (yX7_isTrue, cX7_isTrue, 3, (some .boolean))
theorem ce_X7_isTrue : zCe mX7_isTrue 3 := ⟨zm2 226 rfl rfl, by decide, by decide +kernel, by decide +kernel, by decide +kernel⟩
abbrev mX8_waits : zMI := (yX8_waits, cX8_waits, 2, (some .int))
theorem ce_X8_waits : zCe mX8_waits 1 := ⟨zm5 81 rfl rfl, by decide, by decide +kernel, by decide +kernel, by decide +kernel⟩
abbrev mX9_knocks : zMI := (yX9_knocks, cX9_knocks, 2, (some .int))
theorem ce_X9_knocks : zCe mX9_knocks 1 := ⟨zm5 55 rfl rfl, by decide, by decide +kernel, by decide +kernel, by decide +kernel⟩
abbrev mX9_sits : zMI := (yX9_sits, cX9_sits, 3, (some .int))
theorem ce_X9_sits : zCe mX9_sits 1 := ⟨zm5 123 rfl rfl, by decide, by decide +kernel, by decide +kernel, by decide +kernel⟩
abbrev mX10_become : zMI := (yX10_become, cX10_become, 2, none)
theorem ce_X10_become : zCe mX10_become 1 := ⟨zm3 227 rfl rfl, by decide, by decide +kernel, by decide +kernel, by decide +kernel⟩
abbrev mX10_startAnew : zMI := (yX10_startAnew, cX10_startAnew, 1, none)
theorem ce_X10_startAnew : zCe mX10_startAnew 0 := ⟨zm3 43 rfl rfl, by decide, by decide +kernel, by decide +kernel, by decide +kernel⟩
abbrev mX10_add : zMI := (yX10_add, cX10_add, 6, (some .int))
theorem ce_X10_add : zCe mX10_add 4 := ⟨zm2 177 rfl rfl, by decide, by decide +kernel, by decide +kernel, by decide +kernel⟩
abbrev mX10_has : zMI := (yX10_has, cX10_has, 2, (some .boolean))
theorem ce_X10_has : zCe mX10_has 1 := ⟨zm2 185 rfl rfl, by decide, by decide +kernel, by decide +kernel, by decide +kernel⟩
abbrev mX10_isAct : zMI := (yX10_isAct, cX10_isAct, 2, (some .boolean))
theorem ce_X10_isAct : zCe mX10_isAct 1 := ⟨zm4 208 rfl rfl, by decide, by decide +kernel, by decide +kernel, by decide +kernel⟩
abbrev mX10_all : zMI := (yX10_all, cX10_all, 1, (some .int))
theorem ce_X10_all : zCe mX10_all 0 := ⟨zm4 52 rfl rfl, by decide, by decide +kernel, by decide +kernel, by decide +kernel⟩
abbrev mX10_isOver : zMI := (yX10_isOver, cX10_isOver, 1, (some .boolean))
theorem ce_X10_isOver : zCe mX10_isOver 0 := ⟨zm3 51 rfl rfl, by decide, by decide +kernel, by decide +kernel, by decide +kernel⟩
abbrev mX10_isCalled : zMI := (yX10_isCalled, cX10_isCalled, 2, (some .boolean))
theorem ce_X10_isCalled : zCe mX10_isCalled 1 := ⟨zm3 2 rfl rfl, by decide, by decide +kernel, by decide +kernel, by decide +kernel⟩
abbrev mX10_withBuns : zMI := (yX10_withBuns, cX10_withBuns, 3, (some .int))
theorem ce_X10_withBuns : zCe mX10_withBuns 0 := ⟨zm3 55 rfl rfl, by decide, by decide +kernel, by decide +kernel, by decide +kernel⟩
abbrev mX10_duskNow : zMI := (yX10_duskNow, cX10_duskNow, 1, (some .int))
theorem ce_X10_duskNow : zCe mX10_duskNow 0 := ⟨zm3 59 rfl rfl, by decide, by decide +kernel, by decide +kernel, by decide +kernel⟩
abbrev mX10_get : zMI := (yX10_get, cX10_get, 3, (some .int))
theorem ce_X10_get : zCe mX10_get 2 := ⟨zm2 238 rfl rfl, by decide, by decide +kernel, by decide +kernel, by decide +kernel⟩
abbrev mX10_put : zMI := (yX10_put, cX10_put, 4, none)
theorem ce_X10_put : zCe mX10_put 3 := ⟨zm3 10 rfl rfl, by decide, by decide +kernel, by decide +kernel, by decide +kernel⟩
abbrev mX10_asked : zMI := (yX10_asked, cX10_asked, 2, (some .int))
theorem ce_X10_asked : zCe mX10_asked 1 := ⟨zm2 200 rfl rfl, by decide, by decide +kernel, by decide +kernel, by decide +kernel⟩
abbrev mX10_drawn : zMI := (yX10_drawn, cX10_drawn, 2, (some .int))
theorem ce_X10_drawn : zCe mX10_drawn 1 := ⟨zm2 189 rfl rfl, by decide, by decide +kernel, by decide +kernel, by decide +kernel⟩
abbrev mX10_isServed : zMI := (yX10_isServed, cX10_isServed, 2, (some .boolean))
theorem ce_X10_isServed : zCe mX10_isServed 1 := ⟨zm2 230 rfl rfl, by decide, by decide +kernel, by decide +kernel, by decide +kernel⟩
abbrev mX10_will : zMI := (yX10_will, cX10_will, 2, (some .int))
theorem ce_X10_will : zCe mX10_will 1 := ⟨zm2 207 rfl rfl, by decide, by decide +kernel, by decide +kernel, by decide +kernel⟩
abbrev mX10_goBy : zMI := (yX10_goBy, cX10_goBy, 4, (some .int))
theorem ce_X10_goBy : zCe mX10_goBy 1 := ⟨zm3 193 rfl rfl, by decide, by decide +kernel, by decide +kernel, by decide +kernel⟩
abbrev mX10_goRest : zMI := (yX10_goRest, cX10_goRest, 4, (some .int))
theorem ce_X10_goRest : zCe mX10_goRest 1 := ⟨zm3 238 rfl rfl, by decide, by decide +kernel, by decide +kernel, by decide +kernel⟩
abbrev mX10_toldInRest : zMI := (yX10_toldInRest, cX10_toldInRest, 2, (some .int))
theorem ce_X10_toldInRest : zCe mX10_toldInRest 0 := ⟨zm3 204 rfl rfl, by decide, by decide +kernel, by decide +kernel, by decide +kernel⟩
abbrev mX10_worthOf : zMI := (yX10_worthOf, cX10_worthOf, 4, (some .int))
theorem ce_X10_worthOf : zCe mX10_worthOf 2 := ⟨zm3 211 rfl rfl, by decide, by decide +kernel, by decide +kernel, by decide +kernel⟩
abbrev mX10_takeBack : zMI := (yX10_takeBack, cX10_takeBack, 6, none)
theorem ce_X10_takeBack : zCe mX10_takeBack 5 := ⟨zm4 86 rfl rfl, by decide, by decide +kernel, by decide +kernel, by decide +kernel⟩
abbrev mX10_bunsFor : zMI := (yX10_bunsFor, cX10_bunsFor, 2, (some .int))
theorem ce_X10_bunsFor : zCe mX10_bunsFor 1 := ⟨zm4 81 rfl rfl, by decide, by decide +kernel, by decide +kernel, by decide +kernel⟩
abbrev mX10_drawLot : zMI := (yX10_drawLot, cX10_drawLot, 1, (some .int))
theorem ce_X10_drawLot : zCe mX10_drawLot 0 := ⟨zm4 179 rfl rfl, by decide, by decide +kernel, by decide +kernel, by decide +kernel⟩
abbrev mX10_kinOf : zMI := (yX10_kinOf, cX10_kinOf, 5, (some .int))
theorem ce_X10_kinOf : zCe mX10_kinOf 1 := ⟨zm4 37 rfl rfl, by decide, by decide +kernel, by decide +kernel, by decide +kernel⟩
abbrev mX10_isCloseToOne : zMI := (yX10_isCloseToOne, cX10_isCloseToOne, 5, (some .boolean))
theorem ce_X10_isCloseToOne : zCe mX10_isCloseToOne 2 := ⟨zm4 41 rfl rfl, by decide, by decide +kernel, by decide +kernel, by decide +kernel⟩
abbrev mX11_house : zMI := (yX11_house, cX11_house, 5, (some .int))
theorem ce_X11_house : zCe mX11_house 4 := ⟨zm2 167 rfl rfl, by decide, by decide +kernel, by decide +kernel, by decide +kernel⟩
abbrev mX11_houseOf : zMI := (yX11_houseOf, cX11_houseOf, 3, (some .int))
theorem ce_X11_houseOf : zCe mX11_houseOf 2 := ⟨zm2 181 rfl rfl, by decide, by decide +kernel, by decide +kernel, by decide +kernel⟩
abbrev mX11_change : zMI := (yX11_change, cX11_change, 5, (some .int))
theorem ce_X11_change : zCe mX11_change 3 := ⟨zm3 6 rfl rfl, by decide, by decide +kernel, by decide +kernel, by decide +kernel⟩
abbrev mX11_remake : zMI := (yX11_remake, cX11_remake, 4, (some .int))
theorem ce_X11_remake : zCe mX11_remake 2 := ⟨zm3 14 rfl rfl, by decide, by decide +kernel, by decide +kernel, by decide +kernel⟩
abbrev mX11_dusk : zMI := (yX11_dusk, cX11_dusk, 4, (some .int))
theorem ce_X11_dusk : zCe mX11_dusk 2 := ⟨zm3 18 rfl rfl, by decide, by decide +kernel, by decide +kernel, by decide +kernel⟩
abbrev mX11_lane : zMI := (yX11_lane, cX11_lane, 5, (some .int))
theorem ce_X11_lane : zCe mX11_lane 3 := ⟨zm3 22 rfl rfl, by decide, by decide +kernel, by decide +kernel, by decide +kernel⟩
abbrev mX11_laneOf : zMI := (yX11_laneOf, cX11_laneOf, 3, (some .int))
theorem ce_X11_laneOf : zCe mX11_laneOf 2 := ⟨zm3 26 rfl rfl, by decide, by decide +kernel, by decide +kernel, by decide +kernel⟩
abbrev mX11_shop : zMI := (yX11_shop, cX11_shop, 4, (some .int))
theorem ce_X11_shop : zCe mX11_shop 2 := ⟨zm3 31 rfl rfl, by decide, by decide +kernel, by decide +kernel, by decide +kernel⟩
abbrev mX11_ends : zMI := (yX11_ends, cX11_ends, 3, (some .int))
theorem ce_X11_ends : zCe mX11_ends 1 := ⟨zm3 35 rfl rfl, by decide, by decide +kernel, by decide +kernel, by decide +kernel⟩
abbrev mX11_anew : zMI := (yX11_anew, cX11_anew, 2, (some .int))
theorem ce_X11_anew : zCe mX11_anew 0 := ⟨zm3 39 rfl rfl, by decide, by decide +kernel, by decide +kernel, by decide +kernel⟩
abbrev mX11_state : zMI := (yX11_state, cX11_state, 2, (some .int))
theorem ce_X11_state : zCe mX11_state 1 := ⟨zm3 47 rfl rfl, by decide, by decide +kernel, by decide +kernel, by decide +kernel⟩
abbrev mX11_feed : zMI := (yX11_feed, cX11_feed, 4, (some .int))
theorem ce_X11_feed : zCe mX11_feed 2 := ⟨zm3 63 rfl rfl, by decide, by decide +kernel, by decide +kernel, by decide +kernel⟩
abbrev mX11_rules : zMI := (yX11_rules, cX11_rules, 1, (some .int))
theorem ce_X11_rules : zCe mX11_rules 0 := ⟨zm3 72 rfl rfl, by decide, by decide +kernel, by decide +kernel, by decide +kernel⟩
abbrev mX11_night : zMI := (yX11_night, cX11_night, 2, (some .int))
theorem ce_X11_night : zCe mX11_night 0 := ⟨zm3 189 rfl rfl, by decide, by decide +kernel, by decide +kernel, by decide +kernel⟩
abbrev mX11_on : zMI := (yX11_on, cX11_on, 2, (some .int))
theorem ce_X11_on : zCe mX11_on 1 := ⟨zm3 219 rfl rfl, by decide, by decide +kernel, by decide +kernel, by decide +kernel⟩
abbrev mX11_when : zMI := (yX11_when, cX11_when, 4, (some .int))
theorem ce_X11_when : zCe mX11_when 1 := ⟨zm4 4 rfl rfl, by decide, by decide +kernel, by decide +kernel, by decide +kernel⟩
abbrev mX11_griefFor : zMI := (yX11_griefFor, cX11_griefFor, 2, (some .int))
theorem ce_X11_griefFor : zCe mX11_griefFor 1 := ⟨zm4 9 rfl rfl, by decide, by decide +kernel, by decide +kernel, by decide +kernel⟩
abbrev mX11_laneFor : zMI := (yX11_laneFor, cX11_laneFor, 2, (some .int))
theorem ce_X11_laneFor : zCe mX11_laneFor 1 := ⟨zm4 17 rfl rfl, by decide, by decide +kernel, by decide +kernel, by decide +kernel⟩
abbrev mX11_worthMost : zMI := (yX11_worthMost, cX11_worthMost, 8, (some .int))
theorem ce_X11_worthMost : zCe mX11_worthMost 2 := ⟨zm4 13 rfl rfl, by decide, by decide +kernel, by decide +kernel, by decide +kernel⟩
abbrev mX11_full : zMI := (yX11_full, cX11_full, 4, (some .int))
theorem ce_X11_full : zCe mX11_full 1 := ⟨zm4 21 rfl rfl, by decide, by decide +kernel, by decide +kernel, by decide +kernel⟩
abbrev mX11_bare : zMI := (yX11_bare, cX11_bare, 6, (some .int))
theorem ce_X11_bare : zCe mX11_bare 1 := ⟨zm4 25 rfl rfl, by decide, by decide +kernel, by decide +kernel, by decide +kernel⟩
abbrev mX11_kin : zMI := (yX11_kin, cX11_kin, 2, (some .int))
theorem ce_X11_kin : zCe mX11_kin 1 := ⟨zm4 29 rfl rfl, by decide, by decide +kernel, by decide +kernel, by decide +kernel⟩
abbrev mX11_countKin : zMI := (yX11_countKin, cX11_countKin, 4, (some .int))
theorem ce_X11_countKin : zCe mX11_countKin 0 := ⟨zm4 33 rfl rfl, by decide, by decide +kernel, by decide +kernel, by decide +kernel⟩
abbrev mX11_walk : zMI := (yX11_walk, cX11_walk, 6, (some .int))
theorem ce_X11_walk : zCe mX11_walk 2 := ⟨zm4 48 rfl rfl, by decide, by decide +kernel, by decide +kernel, by decide +kernel⟩
abbrev mX11_walkOver : zMI := (yX11_walkOver, cX11_walkOver, 6, (some .int))
theorem ce_X11_walkOver : zCe mX11_walkOver 4 := ⟨zm4 55 rfl rfl, by decide, by decide +kernel, by decide +kernel, by decide +kernel⟩
abbrev mX11_walkBy : zMI := (yX11_walkBy, cX11_walkBy, 6, (some .int))
theorem ce_X11_walkBy : zCe mX11_walkBy 5 := ⟨zm4 58 rfl rfl, by decide, by decide +kernel, by decide +kernel, by decide +kernel⟩
abbrev mX11_best : zMI := (yX11_best, cX11_best, 2, (some .int))
theorem ce_X11_best : zCe mX11_best 1 := ⟨zm4 63 rfl rfl, by decide, by decide +kernel, by decide +kernel, by decide +kernel⟩
abbrev mX11_ith : zMI := (yX11_ith, cX11_ith, 3, (some .int))
theorem ce_X11_ith : zCe mX11_ith 2 := ⟨zm4 90 rfl rfl, by decide, by decide +kernel, by decide +kernel, by decide +kernel⟩
abbrev mX11_ways : zMI := (yX11_ways, cX11_ways, 2, (some .int))
theorem ce_X11_ways : zCe mX11_ways 1 := ⟨zm4 94 rfl rfl, by decide, by decide +kernel, by decide +kernel, by decide +kernel⟩
abbrev mX11_round : zMI := (yX11_round, cX11_round, 3, (some .int))
theorem ce_X11_round : zCe mX11_round 2 := ⟨zm4 98 rfl rfl, by decide, by decide +kernel, by decide +kernel, by decide +kernel⟩
abbrev mX11_bars : zMI := (yX11_bars, cX11_bars, 3, (some .int))
theorem ce_X11_bars : zCe mX11_bars 2 := ⟨zm4 102 rfl rfl, by decide, by decide +kernel, by decide +kernel, by decide +kernel⟩
abbrev mX11_game : zMI := (yX11_game, cX11_game, 2, (some .int))
theorem ce_X11_game : zCe mX11_game 1 := ⟨zm4 109 rfl rfl, by decide, by decide +kernel, by decide +kernel, by decide +kernel⟩
abbrev mX11_play : zMI := (yX11_play, cX11_play, 2, (some .int))
theorem ce_X11_play : zCe mX11_play 1 := ⟨zm4 121 rfl rfl, by decide, by decide +kernel, by decide +kernel, by decide +kernel⟩
abbrev mX11_report : zMI := (yX11_report, cX11_report, 6, (some .int))
theorem ce_X11_report : zCe mX11_report 4 := ⟨zm4 125 rfl rfl, by decide, by decide +kernel, by decide +kernel, by decide +kernel⟩
abbrev mX11_forget : zMI := (yX11_forget, cX11_forget, 2, (some .int))
theorem ce_X11_forget : zCe mX11_forget 0 := ⟨zm4 133 rfl rfl, by decide, by decide +kernel, by decide +kernel, by decide +kernel⟩
abbrev mX11_stories : zMI := (yX11_stories, cX11_stories, 2, (some .int))
theorem ce_X11_stories : zCe mX11_stories 1 := ⟨zm4 137 rfl rfl, by decide, by decide +kernel, by decide +kernel, by decide +kernel⟩
abbrev mX11_liar : zMI := (yX11_liar, cX11_liar, 1, (some .int))
theorem ce_X11_liar : zCe mX11_liar 0 := ⟨zm4 167 rfl rfl, by decide, by decide +kernel, by decide +kernel, by decide +kernel⟩
abbrev mX11_seed : zMI := (yX11_seed, cX11_seed, 3, (some .int))
theorem ce_X11_seed : zCe mX11_seed 1 := ⟨zm4 171 rfl rfl, by decide, by decide +kernel, by decide +kernel, by decide +kernel⟩
abbrev mX11_lot : zMI := (yX11_lot, cX11_lot, 2, (some .int))
theorem ce_X11_lot : zCe mX11_lot 0 := ⟨zm4 175 rfl rfl, by decide, by decide +kernel, by decide +kernel, by decide +kernel⟩
abbrev mX11_times : zMI := (yX11_times, cX11_times, 9, (some .int))
theorem ce_X11_times : zCe mX11_times 2 := ⟨zm4 184 rfl rfl, by decide, by decide +kernel, by decide +kernel, by decide +kernel⟩
abbrev mX11_prove : zMI := (yX11_prove, cX11_prove, 4, (some .int))
theorem ce_X11_prove : zCe mX11_prove 1 := ⟨zm4 188 rfl rfl, by decide, by decide +kernel, by decide +kernel, by decide +kernel⟩
abbrev mX11_row : zMI := (yX11_row, cX11_row, 3, (some .int))
theorem ce_X11_row : zCe mX11_row 2 := ⟨zm4 192 rfl rfl, by decide, by decide +kernel, by decide +kernel, by decide +kernel⟩
abbrev mX11_alterRow : zMI := (yX11_alterRow, cX11_alterRow, 5, (some .int))
theorem ce_X11_alterRow : zCe mX11_alterRow 3 := ⟨zm4 200 rfl rfl, by decide, by decide +kernel, by decide +kernel, by decide +kernel⟩
abbrev mX11_isInRow : zMI := (yX11_isInRow, cX11_isInRow, 3, (some .boolean))
theorem ce_X11_isInRow : zCe mX11_isInRow 2 := ⟨zm4 196 rfl rfl, by decide, by decide +kernel, by decide +kernel, by decide +kernel⟩
abbrev mX11_judge : zMI := (yX11_judge, cX11_judge, 5, (some .int))
theorem ce_X11_judge : zCe mX11_judge 0 := ⟨zm4 204 rfl rfl, by decide, by decide +kernel, by decide +kernel, by decide +kernel⟩
abbrev mX11_sheet : zMI := (yX11_sheet, cX11_sheet, 5, (some .int))
theorem ce_X11_sheet : zCe mX11_sheet 3 := ⟨zm4 212 rfl rfl, by decide, by decide +kernel, by decide +kernel, by decide +kernel⟩
abbrev mX11_write : zMI := (yX11_write, cX11_write, 4, (some .int))
theorem ce_X11_write : zCe mX11_write 3 := ⟨zm4 222 rfl rfl, by decide, by decide +kernel, by decide +kernel, by decide +kernel⟩
abbrev mX11_narrowed : zMI := (yX11_narrowed, cX11_narrowed, 2, (some .int))
theorem ce_X11_narrowed : zCe mX11_narrowed 2 := ⟨zm4 229 rfl rfl, by decide, by decide +kernel, by decide +kernel, by decide +kernel⟩
abbrev mX11_item : zMI := (yX11_item, cX11_item, 5, (some .int))
theorem ce_X11_item : zCe mX11_item 3 := ⟨zm4 233 rfl rfl, by decide, by decide +kernel, by decide +kernel, by decide +kernel⟩
abbrev mX11_goAll : zMI := (yX11_goAll, cX11_goAll, 9, (some .int))
theorem ce_X11_goAll : zCe mX11_goAll 3 := ⟨zm5 1 rfl rfl, by decide, by decide +kernel, by decide +kernel, by decide +kernel⟩
abbrev mX11_wouldBe : zMI := (yX11_wouldBe, cX11_wouldBe, 9, (some .int))
theorem ce_X11_wouldBe : zCe mX11_wouldBe 3 := ⟨zm5 5 rfl rfl, by decide, by decide +kernel, by decide +kernel, by decide +kernel⟩
abbrev mX11_shelf : zMI := (yX11_shelf, cX11_shelf, 5, (some .int))
theorem ce_X11_shelf : zCe mX11_shelf 3 := ⟨zm5 9 rfl rfl, by decide, by decide +kernel, by decide +kernel, by decide +kernel⟩
abbrev mX11_taken : zMI := (yX11_taken, cX11_taken, 5, (some .int))
theorem ce_X11_taken : zCe mX11_taken 2 := ⟨zm5 16 rfl rfl, by decide, by decide +kernel, by decide +kernel, by decide +kernel⟩
abbrev mX11_act : zMI := (yX11_act, cX11_act, 7, (some .int))
theorem ce_X11_act : zCe mX11_act 3 := ⟨zm5 25 rfl rfl, by decide, by decide +kernel, by decide +kernel, by decide +kernel⟩
abbrev mX11_trace : zMI := (yX11_trace, cX11_trace, 2, (some .int))
theorem ce_X11_trace : zCe mX11_trace 1 := ⟨zm5 137 rfl rfl, by decide, by decide +kernel, by decide +kernel, by decide +kernel⟩
abbrev mX11_many : zMI := (yX11_many, cX11_many, 2, (some .int))
theorem ce_X11_many : zCe mX11_many 1 := ⟨zm5 141 rfl rfl, by decide, by decide +kernel, by decide +kernel, by decide +kernel⟩
abbrev mX11_isSheet : zMI := (yX11_isSheet, cX11_isSheet, 1, (some .boolean))
theorem ce_X11_isSheet : zCe mX11_isSheet 1 := ⟨zm4 215 rfl rfl, by decide, by decide +kernel, by decide +kernel, by decide +kernel⟩
abbrev mX11_isShelf : zMI := (yX11_isShelf, cX11_isShelf, 1, (some .boolean))
theorem ce_X11_isShelf : zCe mX11_isShelf 1 := ⟨zm5 12 rfl rfl, by decide, by decide +kernel, by decide +kernel, by decide +kernel⟩
abbrev mX11_hasItem : zMI := (yX11_hasItem, cX11_hasItem, 3, (some .boolean))
theorem ce_X11_hasItem : zCe mX11_hasItem 2 := ⟨zm4 226 rfl rfl, by decide, by decide +kernel, by decide +kernel, by decide +kernel⟩
abbrev mX11_takenFor : zMI := (yX11_takenFor, cX11_takenFor, 3, (some .int))
theorem ce_X11_takenFor : zCe mX11_takenFor 2 := ⟨zm4 237 rfl rfl, by decide, by decide +kernel, by decide +kernel, by decide +kernel⟩
abbrev mX11_houseOn : zMI := (yX11_houseOn, cX11_houseOn, 2, (some .int))
theorem ce_X11_houseOn : zCe mX11_houseOn 1 := ⟨zm5 20 rfl rfl, by decide, by decide +kernel, by decide +kernel, by decide +kernel⟩
abbrev mX11_keep : zMI := (yX11_keep, cX11_keep, 1, (some .int))
theorem ce_X11_keep : zCe mX11_keep 0 := ⟨zm5 146 rfl rfl, by decide, by decide +kernel, by decide +kernel, by decide +kernel⟩
abbrev mX11_again : zMI := (yX11_again, cX11_again, 1, (some .int))
theorem ce_X11_again : zCe mX11_again 0 := ⟨zm5 150 rfl rfl, by decide, by decide +kernel, by decide +kernel, by decide +kernel⟩
abbrev mX11_freshTrial : zMI := (yX11_freshTrial, cX11_freshTrial, 1, (some (.object "ThirteenthBun$Village")))
theorem ce_X11_freshTrial : zCe mX11_freshTrial 0 := ⟨zm3 223 rfl rfl, by decide, by decide +kernel, by decide +kernel, by decide +kernel⟩
abbrev mX11_isFrom0To : zMI := (yX11_isFrom0To, cX11_isFrom0To, 2, (some .boolean))
theorem ce_X11_isFrom0To : zCe mX11_isFrom0To 2 := ⟨zm2 173 rfl rfl, by decide, by decide +kernel, by decide +kernel, by decide +kernel⟩
abbrev mX11_mostOf : zMI := (yX11_mostOf, cX11_mostOf, 1, (some .int))
theorem ce_X11_mostOf : zCe mX11_mostOf 1 := ⟨zm2 234 rfl rfl, by decide, by decide +kernel, by decide +kernel, by decide +kernel⟩
abbrev mX11_leastOf : zMI := (yX11_leastOf, cX11_leastOf, 2, (some .int))
theorem ce_X11_leastOf : zCe mX11_leastOf 1 := ⟨zm4 105 rfl rfl, by decide, by decide +kernel, by decide +kernel, by decide +kernel⟩
abbrev mX11_isKind : zMI := (yX11_isKind, cX11_isKind, 1, (some .boolean))
theorem ce_X11_isKind : zCe mX11_isKind 1 := ⟨zm2 170 rfl rfl, by decide, by decide +kernel, by decide +kernel, by decide +kernel⟩
abbrev mX11_isUnder : zMI := (yX11_isUnder, cX11_isUnder, 3, (some .boolean))
theorem ce_X11_isUnder : zCe mX11_isUnder 2 := ⟨zm2 215 rfl rfl, by decide, by decide +kernel, by decide +kernel, by decide +kernel⟩
abbrev mX11_asks : zMI := (yX11_asks, cX11_asks, 3, (some .int))
theorem ce_X11_asks : zCe mX11_asks 3 := ⟨zm2 203 rfl rfl, by decide, by decide +kernel, by decide +kernel, by decide +kernel⟩
abbrev mX11_draws : zMI := (yX11_draws, cX11_draws, 4, (some .int))
theorem ce_X11_draws : zCe mX11_draws 4 := ⟨zm2 192 rfl rfl, by decide, by decide +kernel, by decide +kernel, by decide +kernel⟩
abbrev mX11_rainBehind : zMI := (yX11_rainBehind, cX11_rainBehind, 3, (some .int))
theorem ce_X11_rainBehind : zCe mX11_rainBehind 2 := ⟨zm3 197 rfl rfl, by decide, by decide +kernel, by decide +kernel, by decide +kernel⟩
abbrev mX11_trayBehind : zMI := (yX11_trayBehind, cX11_trayBehind, 2, (some .int))
theorem ce_X11_trayBehind : zCe mX11_trayBehind 2 := ⟨zm3 215 rfl rfl, by decide, by decide +kernel, by decide +kernel, by decide +kernel⟩
abbrev mX12_in1 : zMI := (yX12_in1, cX12_in1, 3, (some .boolean))
theorem ce_X12_in1 : zCe mX12_in1 3 := ⟨zm6 42 rfl rfl, by decide, by decide +kernel, by decide +kernel, by decide +kernel⟩
abbrev mX12_held : zMI := (yX12_held, cX12_held, 2, (some .int))
theorem ce_X12_held : zCe mX12_held 2 := ⟨zm6 237 rfl rfl, by decide, by decide +kernel, by decide +kernel, by decide +kernel⟩
abbrev mX12_layDown : zMI := (yX12_layDown, cX12_layDown, 2, none)
theorem ce_X12_layDown : zCe mX12_layDown 0 := ⟨zm7 21 rfl rfl, by decide, by decide +kernel, by decide +kernel, by decide +kernel⟩
abbrev mX12_layBack : zMI := (yX12_layBack, cX12_layBack, 2, none)
theorem ce_X12_layBack : zCe mX12_layBack 0 := ⟨zm7 29 rfl rfl, by decide, by decide +kernel, by decide +kernel, by decide +kernel⟩
abbrev mX12_get : zMI := (yX12_get, cX12_get, 3, (some .int))
theorem ce_X12_get : zCe mX12_get 2 := ⟨zm6 136 rfl rfl, by decide, by decide +kernel, by decide +kernel, by decide +kernel⟩
abbrev mX12_puts : zMI := (yX12_puts, cX12_puts, 4, none)
theorem ce_X12_puts : zCe mX12_puts 3 := ⟨zm6 120 rfl rfl, by decide, by decide +kernel, by decide +kernel, by decide +kernel⟩
abbrev mX12_isHouse : zMI := (yX12_isHouse, cX12_isHouse, 2, (some .boolean))
theorem ce_X12_isHouse : zCe mX12_isHouse 1 := ⟨zm6 128 rfl rfl, by decide, by decide +kernel, by decide +kernel, by decide +kernel⟩
abbrev mX12_isAct : zMI := (yX12_isAct, cX12_isAct, 2, (some .boolean))
theorem ce_X12_isAct : zCe mX12_isAct 1 := ⟨zm7 205 rfl rfl, by decide, by decide +kernel, by decide +kernel, by decide +kernel⟩
abbrev mX12_isOver : zMI := (yX12_isOver, cX12_isOver, 1, (some .boolean))
theorem ce_X12_isOver : zCe mX12_isOver 0 := ⟨zm6 219 rfl rfl, by decide, by decide +kernel, by decide +kernel, by decide +kernel⟩
abbrev mX12_becomes : zMI := (yX12_becomes, cX12_becomes, 4, (some .int))
theorem ce_X12_becomes : zCe mX12_becomes 2 := ⟨zm6 183 rfl rfl, by decide, by decide +kernel, by decide +kernel, by decide +kernel⟩
abbrev mX12_above : zMI := (yX12_above, cX12_above, 1, (some .int))
theorem ce_X12_above : zCe mX12_above 1 := ⟨zm6 160 rfl rfl, by decide, by decide +kernel, by decide +kernel, by decide +kernel⟩
abbrev mX12_isUnder : zMI := (yX12_isUnder, cX12_isUnder, 3, (some .boolean))
theorem ce_X12_isUnder : zCe mX12_isUnder 2 := ⟨zm6 157 rfl rfl, by decide, by decide +kernel, by decide +kernel, by decide +kernel⟩
abbrev mX12_drawsBy : zMI := (yX12_drawsBy, cX12_drawsBy, 4, (some .int))
theorem ce_X12_drawsBy : zCe mX12_drawsBy 4 := ⟨zm6 139 rfl rfl, by decide, by decide +kernel, by decide +kernel, by decide +kernel⟩
abbrev mX12_drawsOf : zMI := (yX12_drawsOf, cX12_drawsOf, 3, (some .int))
theorem ce_X12_drawsOf : zCe mX12_drawsOf 1 := ⟨zm6 132 rfl rfl, by decide, by decide +kernel, by decide +kernel, by decide +kernel⟩
abbrev mX12_asksBy : zMI := (yX12_asksBy, cX12_asksBy, 3, (some .int))
theorem ce_X12_asksBy : zCe mX12_asksBy 3 := ⟨zm6 146 rfl rfl, by decide, by decide +kernel, by decide +kernel, by decide +kernel⟩
abbrev mX12_asksOf : zMI := (yX12_asksOf, cX12_asksOf, 2, (some .int))
theorem ce_X12_asksOf : zCe mX12_asksOf 1 := ⟨zm6 143 rfl rfl, by decide, by decide +kernel, by decide +kernel, by decide +kernel⟩
abbrev mX12_isServed : zMI := (yX12_isServed, cX12_isServed, 2, (some .boolean))
theorem ce_X12_isServed : zCe mX12_isServed 1 := ⟨zm6 175 rfl rfl, by decide, by decide +kernel, by decide +kernel, by decide +kernel⟩
abbrev mX12_wouldCall : zMI := (yX12_wouldCall, cX12_wouldCall, 2, (some .boolean))
theorem ce_X12_wouldCall : zCe mX12_wouldCall 1 := ⟨zm7 5 rfl rfl, by decide, by decide +kernel, by decide +kernel, by decide +kernel⟩
abbrev mX12_knownOf : zMI := (yX12_knownOf, cX12_knownOf, 3, (some .int))
theorem ce_X12_knownOf : zCe mX12_knownOf 2 := ⟨zm6 168 rfl rfl, by decide, by decide +kernel, by decide +kernel, by decide +kernel⟩
abbrev mX12_joined : zMI := (yX12_joined, cX12_joined, 3, (some .int))
theorem ce_X12_joined : zCe mX12_joined 3 := ⟨zm6 171 rfl rfl, by decide, by decide +kernel, by decide +kernel, by decide +kernel⟩
abbrev mX12_ruleOf : zMI := (yX12_ruleOf, cX12_ruleOf, 3, (some .int))
theorem ce_X12_ruleOf : zCe mX12_ruleOf 2 := ⟨zm6 154 rfl rfl, by decide, by decide +kernel, by decide +kernel, by decide +kernel⟩
abbrev mX12_holdsFor : zMI := (yX12_holdsFor, cX12_holdsFor, 6, (some .boolean))
theorem ce_X12_holdsFor : zCe mX12_holdsFor 2 := ⟨zm6 164 rfl rfl, by decide, by decide +kernel, by decide +kernel, by decide +kernel⟩
abbrev mX12_willOf : zMI := (yX12_willOf, cX12_willOf, 3, (some .int))
theorem ce_X12_willOf : zCe mX12_willOf 1 := ⟨zm6 150 rfl rfl, by decide, by decide +kernel, by decide +kernel, by decide +kernel⟩
abbrev mX12_byteAt : zMI := (yX12_byteAt, cX12_byteAt, 2, (some .int))
theorem ce_X12_byteAt : zCe mX12_byteAt 1 := ⟨zm6 55 rfl rfl, by decide, by decide +kernel, by decide +kernel, by decide +kernel⟩
abbrev mX12_isNameOf : zMI := (yX12_isNameOf, cX12_isNameOf, 4, (some .boolean))
theorem ce_X12_isNameOf : zCe mX12_isNameOf 1 := ⟨zm6 63 rfl rfl, by decide, by decide +kernel, by decide +kernel, by decide +kernel⟩
abbrev mX12_readsName : zMI := (yX12_readsName, cX12_readsName, 2, none)
theorem ce_X12_readsName : zCe mX12_readsName 0 := ⟨zm6 59 rfl rfl, by decide, by decide +kernel, by decide +kernel, by decide +kernel⟩
abbrev mX12_readsNumber : zMI := (yX12_readsNumber, cX12_readsNumber, 1, none)
theorem ce_X12_readsNumber : zCe mX12_readsNumber 0 := ⟨zm6 67 rfl rfl, by decide, by decide +kernel, by decide +kernel, by decide +kernel⟩
abbrev mX12_next : zMI := (yX12_next, cX12_next, 2, none)
theorem ce_X12_next : zCe mX12_next 0 := ⟨zm6 51 rfl rfl, by decide, by decide +kernel, by decide +kernel, by decide +kernel⟩
abbrev mX12_takes : zMI := (yX12_takes, cX12_takes, 3, (some .boolean))
theorem ce_X12_takes : zCe mX12_takes 1 := ⟨zm6 75 rfl rfl, by decide, by decide +kernel, by decide +kernel, by decide +kernel⟩
abbrev mX12_lays : zMI := (yX12_lays, cX12_lays, 2, none)
theorem ce_X12_lays : zCe mX12_lays 1 := ⟨zm6 103 rfl rfl, by decide, by decide +kernel, by decide +kernel, by decide +kernel⟩
abbrev mX12_readsValue : zMI := (yX12_readsValue, cX12_readsValue, 2, (some .boolean))
theorem ce_X12_readsValue : zCe mX12_readsValue 0 := ⟨zm6 99 rfl rfl, by decide, by decide +kernel, by decide +kernel, by decide +kernel⟩
abbrev mX12_readsLike : zMI := (yX12_readsLike, cX12_readsLike, 2, (some .boolean))
theorem ce_X12_readsLike : zCe mX12_readsLike 0 := ⟨zm6 95 rfl rfl, by decide, by decide +kernel, by decide +kernel, by decide +kernel⟩
abbrev mX12_readsWithin : zMI := (yX12_readsWithin, cX12_readsWithin, 1, (some .boolean))
theorem ce_X12_readsWithin : zCe mX12_readsWithin 0 := ⟨zm6 91 rfl rfl, by decide, by decide +kernel, by decide +kernel, by decide +kernel⟩
abbrev mX12_readsOne : zMI := (yX12_readsOne, cX12_readsOne, 4, (some .boolean))
theorem ce_X12_readsOne : zCe mX12_readsOne 0 := ⟨zm6 87 rfl rfl, by decide, by decide +kernel, by decide +kernel, by decide +kernel⟩
abbrev mX12_readsAll : zMI := (yX12_readsAll, cX12_readsAll, 2, (some .boolean))
theorem ce_X12_readsAll : zCe mX12_readsAll 0 := ⟨zm6 83 rfl rfl, by decide, by decide +kernel, by decide +kernel, by decide +kernel⟩
abbrev mX12_readsCondition : zMI := (yX12_readsCondition, cX12_readsCondition, 2, (some .boolean))
theorem ce_X12_readsCondition : zCe mX12_readsCondition 0 := ⟨zm6 79 rfl rfl, by decide, by decide +kernel, by decide +kernel, by decide +kernel⟩
abbrev mX12_readsRule : zMI := (yX12_readsRule, cX12_readsRule, 2, (some .boolean))
theorem ce_X12_readsRule : zCe mX12_readsRule 1 := ⟨zm6 71 rfl rfl, by decide, by decide +kernel, by decide +kernel, by decide +kernel⟩
abbrev mX12_feed : zMI := (yX12_feed, cX12_feed, 5, (some .int))
theorem ce_X12_feed : zCe mX12_feed 2 := ⟨zm6 39 rfl rfl, by decide, by decide +kernel, by decide +kernel, by decide +kernel⟩
abbrev mX12_rules : zMI := (yX12_rules, cX12_rules, 4, (some .int))
theorem ce_X12_rules : zCe mX12_rules 0 := ⟨zm6 47 rfl rfl, by decide, by decide +kernel, by decide +kernel, by decide +kernel⟩
abbrev mX12_rainBy : zMI := (yX12_rainBy, cX12_rainBy, 5, (some .int))
theorem ce_X12_rainBy : zCe mX12_rainBy 2 := ⟨zm6 234 rfl rfl, by decide, by decide +kernel, by decide +kernel, by decide +kernel⟩
abbrev mX12_given : zMI := (yX12_given, cX12_given, 3, (some .int))
theorem ce_X12_given : zCe mX12_given 1 := ⟨zm7 13 rfl rfl, by decide, by decide +kernel, by decide +kernel, by decide +kernel⟩
abbrev mX12_meets : zMI := (yX12_meets, cX12_meets, 3, (some .int))
theorem ce_X12_meets : zCe mX12_meets 1 := ⟨zm7 9 rfl rfl, by decide, by decide +kernel, by decide +kernel, by decide +kernel⟩
abbrev mX12_restOne : zMI := (yX12_restOne, cX12_restOne, 2, (some .int))
theorem ce_X12_restOne : zCe mX12_restOne 0 := ⟨zm7 1 rfl rfl, by decide, by decide +kernel, by decide +kernel, by decide +kernel⟩
abbrev mX12_goesBy : zMI := (yX12_goesBy, cX12_goesBy, 4, (some .int))
theorem ce_X12_goesBy : zCe mX12_goesBy 1 := ⟨zm6 231 rfl rfl, by decide, by decide +kernel, by decide +kernel, by decide +kernel⟩
abbrev mX12_isRank : zMI := (yX12_isRank, cX12_isRank, 1, (some .boolean))
theorem ce_X12_isRank : zCe mX12_isRank 1 := ⟨zm6 110 rfl rfl, by decide, by decide +kernel, by decide +kernel, by decide +kernel⟩
abbrev mX12_isDigit : zMI := (yX12_isDigit, cX12_isDigit, 1, (some .boolean))
theorem ce_X12_isDigit : zCe mX12_isDigit 1 := ⟨zm6 113 rfl rfl, by decide, by decide +kernel, by decide +kernel, by decide +kernel⟩
abbrev mX12_isLane : zMI := (yX12_isLane, cX12_isLane, 1, (some .boolean))
theorem ce_X12_isLane : zCe mX12_isLane 1 := ⟨zm6 116 rfl rfl, by decide, by decide +kernel, by decide +kernel, by decide +kernel⟩
abbrev mX12_house : zMI := (yX12_house, cX12_house, 6, (some .int))
theorem ce_X12_house : zCe mX12_house 4 := ⟨zm6 107 rfl rfl, by decide, by decide +kernel, by decide +kernel, by decide +kernel⟩
abbrev mX12_houseOf : zMI := (yX12_houseOf, cX12_houseOf, 3, (some .int))
theorem ce_X12_houseOf : zCe mX12_houseOf 2 := ⟨zm6 124 rfl rfl, by decide, by decide +kernel, by decide +kernel, by decide +kernel⟩
abbrev mX12_change : zMI := (yX12_change, cX12_change, 5, (some .int))
theorem ce_X12_change : zCe mX12_change 3 := ⟨zm6 179 rfl rfl, by decide, by decide +kernel, by decide +kernel, by decide +kernel⟩
abbrev mX12_remake : zMI := (yX12_remake, cX12_remake, 3, (some .int))
theorem ce_X12_remake : zCe mX12_remake 2 := ⟨zm6 187 rfl rfl, by decide, by decide +kernel, by decide +kernel, by decide +kernel⟩
abbrev mX12_dusk : zMI := (yX12_dusk, cX12_dusk, 3, (some .int))
theorem ce_X12_dusk : zCe mX12_dusk 2 := ⟨zm6 191 rfl rfl, by decide, by decide +kernel, by decide +kernel, by decide +kernel⟩
abbrev mX12_lane : zMI := (yX12_lane, cX12_lane, 4, (some .int))
theorem ce_X12_lane : zCe mX12_lane 3 := ⟨zm6 195 rfl rfl, by decide, by decide +kernel, by decide +kernel, by decide +kernel⟩
abbrev mX12_laneOf : zMI := (yX12_laneOf, cX12_laneOf, 3, (some .int))
theorem ce_X12_laneOf : zCe mX12_laneOf 2 := ⟨zm6 199 rfl rfl, by decide, by decide +kernel, by decide +kernel, by decide +kernel⟩
abbrev mX12_shop : zMI := (yX12_shop, cX12_shop, 3, (some .int))
theorem ce_X12_shop : zCe mX12_shop 2 := ⟨zm6 203 rfl rfl, by decide, by decide +kernel, by decide +kernel, by decide +kernel⟩
abbrev mX12_ends : zMI := (yX12_ends, cX12_ends, 2, (some .int))
theorem ce_X12_ends : zCe mX12_ends 1 := ⟨zm6 207 rfl rfl, by decide, by decide +kernel, by decide +kernel, by decide +kernel⟩
abbrev mX12_anew : zMI := (yX12_anew, cX12_anew, 2, (some .int))
theorem ce_X12_anew : zCe mX12_anew 0 := ⟨zm6 211 rfl rfl, by decide, by decide +kernel, by decide +kernel, by decide +kernel⟩
abbrev mX12_those : zMI := (yX12_those, cX12_those, 4, (some .int))
theorem ce_X12_those : zCe mX12_those 1 := ⟨zm6 223 rfl rfl, by decide, by decide +kernel, by decide +kernel, by decide +kernel⟩
abbrev mX12_state : zMI := (yX12_state, cX12_state, 2, (some .int))
theorem ce_X12_state : zCe mX12_state 1 := ⟨zm6 215 rfl rfl, by decide, by decide +kernel, by decide +kernel, by decide +kernel⟩
abbrev mX12_night : zMI := (yX12_night, cX12_night, 1, (some .int))
theorem ce_X12_night : zCe mX12_night 0 := ⟨zm6 227 rfl rfl, by decide, by decide +kernel, by decide +kernel, by decide +kernel⟩
abbrev mX12_restOf : zMI := (yX12_restOf, cX12_restOf, 4, (some .int))
theorem ce_X12_restOf : zCe mX12_restOf 1 := ⟨zm7 25 rfl rfl, by decide, by decide +kernel, by decide +kernel, by decide +kernel⟩
abbrev mX12_on : zMI := (yX12_on, cX12_on, 3, (some .int))
theorem ce_X12_on : zCe mX12_on 1 := ⟨zm7 17 rfl rfl, by decide, by decide +kernel, by decide +kernel, by decide +kernel⟩
abbrev mX12_when : zMI := (yX12_when, cX12_when, 5, (some .int))
theorem ce_X12_when : zCe mX12_when 1 := ⟨zm7 33 rfl rfl, by decide, by decide +kernel, by decide +kernel, by decide +kernel⟩
abbrev mX12_bestFor : zMI := (yX12_bestFor, cX12_bestFor, 8, (some .int))
theorem ce_X12_bestFor : zCe mX12_bestFor 3 := ⟨zm7 41 rfl rfl, by decide, by decide +kernel, by decide +kernel, by decide +kernel⟩
abbrev mX12_griefFor : zMI := (yX12_griefFor, cX12_griefFor, 2, (some .int))
theorem ce_X12_griefFor : zCe mX12_griefFor 1 := ⟨zm7 37 rfl rfl, by decide, by decide +kernel, by decide +kernel, by decide +kernel⟩
abbrev mX12_laneFor : zMI := (yX12_laneFor, cX12_laneFor, 2, (some .int))
theorem ce_X12_laneFor : zCe mX12_laneFor 1 := ⟨zm7 45 rfl rfl, by decide, by decide +kernel, by decide +kernel, by decide +kernel⟩
abbrev mX12_full : zMI := (yX12_full, cX12_full, 4, (some .int))
theorem ce_X12_full : zCe mX12_full 1 := ⟨zm7 49 rfl rfl, by decide, by decide +kernel, by decide +kernel, by decide +kernel⟩
abbrev mX12_bare : zMI := (yX12_bare, cX12_bare, 5, (some .int))
theorem ce_X12_bare : zCe mX12_bare 1 := ⟨zm7 53 rfl rfl, by decide, by decide +kernel, by decide +kernel, by decide +kernel⟩
abbrev mX12_areClose : zMI := (yX12_areClose, cX12_areClose, 4, (some .boolean))
theorem ce_X12_areClose : zCe mX12_areClose 2 := ⟨zm7 65 rfl rfl, by decide, by decide +kernel, by decide +kernel, by decide +kernel⟩
abbrev mX12_kinOf : zMI := (yX12_kinOf, cX12_kinOf, 6, (some .int))
theorem ce_X12_kinOf : zCe mX12_kinOf 1 := ⟨zm7 61 rfl rfl, by decide, by decide +kernel, by decide +kernel, by decide +kernel⟩
abbrev mX12_kin : zMI := (yX12_kin, cX12_kin, 5, (some .int))
theorem ce_X12_kin : zCe mX12_kin 1 := ⟨zm7 57 rfl rfl, by decide, by decide +kernel, by decide +kernel, by decide +kernel⟩
abbrev mX12_goesRound : zMI := (yX12_goesRound, cX12_goesRound, 8, none)
theorem ce_X12_goesRound : zCe mX12_goesRound 4 := ⟨zm7 73 rfl rfl, by decide, by decide +kernel, by decide +kernel, by decide +kernel⟩
abbrev mX12_walk : zMI := (yX12_walk, cX12_walk, 4, (some .int))
theorem ce_X12_walk : zCe mX12_walk 2 := ⟨zm7 69 rfl rfl, by decide, by decide +kernel, by decide +kernel, by decide +kernel⟩
abbrev mX12_saves : zMI := (yX12_saves, cX12_saves, 3, none)
theorem ce_X12_saves : zCe mX12_saves 1 := ⟨zm7 100 rfl rfl, by decide, by decide +kernel, by decide +kernel, by decide +kernel⟩
abbrev mX12_restores : zMI := (yX12_restores, cX12_restores, 3, none)
theorem ce_X12_restores : zCe mX12_restores 1 := ⟨zm7 104 rfl rfl, by decide, by decide +kernel, by decide +kernel, by decide +kernel⟩
abbrev mX12_daysOf : zMI := (yX12_daysOf, cX12_daysOf, 3, (some .int))
theorem ce_X12_daysOf : zCe mX12_daysOf 1 := ⟨zm7 88 rfl rfl, by decide, by decide +kernel, by decide +kernel, by decide +kernel⟩
abbrev mX12_endsPlan : zMI := (yX12_endsPlan, cX12_endsPlan, 6, none)
theorem ce_X12_endsPlan : zCe mX12_endsPlan 4 := ⟨zm7 96 rfl rfl, by decide, by decide +kernel, by decide +kernel, by decide +kernel⟩
abbrev mX12_goesPlans : zMI := (yX12_goesPlans, cX12_goesPlans, 8, none)
theorem ce_X12_goesPlans : zCe mX12_goesPlans 5 := ⟨zm7 92 rfl rfl, by decide, by decide +kernel, by decide +kernel, by decide +kernel⟩
abbrev mX12_triesAll : zMI := (yX12_triesAll, cX12_triesAll, 3, none)
theorem ce_X12_triesAll : zCe mX12_triesAll 2 := ⟨zm7 84 rfl rfl, by decide, by decide +kernel, by decide +kernel, by decide +kernel⟩
abbrev mX12_isPlan : zMI := (yX12_isPlan, cX12_isPlan, 1, (some .boolean))
theorem ce_X12_isPlan : zCe mX12_isPlan 1 := ⟨zm7 80 rfl rfl, by decide, by decide +kernel, by decide +kernel, by decide +kernel⟩
abbrev mX12_best : zMI := (yX12_best, cX12_best, 2, (some .int))
theorem ce_X12_best : zCe mX12_best 1 := ⟨zm7 77 rfl rfl, by decide, by decide +kernel, by decide +kernel, by decide +kernel⟩
abbrev mX12_ith : zMI := (yX12_ith, cX12_ith, 3, (some .int))
theorem ce_X12_ith : zCe mX12_ith 2 := ⟨zm7 108 rfl rfl, by decide, by decide +kernel, by decide +kernel, by decide +kernel⟩
abbrev mX12_ways : zMI := (yX12_ways, cX12_ways, 2, (some .int))
theorem ce_X12_ways : zCe mX12_ways 1 := ⟨zm7 112 rfl rfl, by decide, by decide +kernel, by decide +kernel, by decide +kernel⟩
abbrev mX12_isSet : zMI := (yX12_isSet, cX12_isSet, 2, (some .boolean))
theorem ce_X12_isSet : zCe mX12_isSet 1 := ⟨zm7 120 rfl rfl, by decide, by decide +kernel, by decide +kernel, by decide +kernel⟩
abbrev mX12_round : zMI := (yX12_round, cX12_round, 3, (some .int))
theorem ce_X12_round : zCe mX12_round 2 := ⟨zm7 116 rfl rfl, by decide, by decide +kernel, by decide +kernel, by decide +kernel⟩
abbrev mX12_bars : zMI := (yX12_bars, cX12_bars, 5, (some .int))
theorem ce_X12_bars : zCe mX12_bars 2 := ⟨zm7 124 rfl rfl, by decide, by decide +kernel, by decide +kernel, by decide +kernel⟩
abbrev mX12_playedFrom : zMI := (yX12_playedFrom, cX12_playedFrom, 9, (some .int))
theorem ce_X12_playedFrom : zCe mX12_playedFrom 2 := ⟨zm7 132 rfl rfl, by decide, by decide +kernel, by decide +kernel, by decide +kernel⟩
abbrev mX12_game : zMI := (yX12_game, cX12_game, 2, (some .int))
theorem ce_X12_game : zCe mX12_game 1 := ⟨zm7 128 rfl rfl, by decide, by decide +kernel, by decide +kernel, by decide +kernel⟩
abbrev mX12_play : zMI := (yX12_play, cX12_play, 3, (some .int))
theorem ce_X12_play : zCe mX12_play 1 := ⟨zm7 136 rfl rfl, by decide, by decide +kernel, by decide +kernel, by decide +kernel⟩
abbrev mX12_report : zMI := (yX12_report, cX12_report, 7, (some .int))
theorem ce_X12_report : zCe mX12_report 4 := ⟨zm7 140 rfl rfl, by decide, by decide +kernel, by decide +kernel, by decide +kernel⟩
abbrev mX12_forget : zMI := (yX12_forget, cX12_forget, 1, (some .int))
theorem ce_X12_forget : zCe mX12_forget 0 := ⟨zm7 144 rfl rfl, by decide, by decide +kernel, by decide +kernel, by decide +kernel⟩
abbrev mX12_tellsStranger : zMI := (yX12_tellsStranger, cX12_tellsStranger, 8, none)
theorem ce_X12_tellsStranger : zCe mX12_tellsStranger 3 := ⟨zm7 156 rfl rfl, by decide, by decide +kernel, by decide +kernel, by decide +kernel⟩
abbrev mX12_isSo : zMI := (yX12_isSo, cX12_isSo, 4, (some .boolean))
theorem ce_X12_isSo : zCe mX12_isSo 1 := ⟨zm7 160 rfl rfl, by decide, by decide +kernel, by decide +kernel, by decide +kernel⟩
abbrev mX12_fitting : zMI := (yX12_fitting, cX12_fitting, 6, (some .int))
theorem ce_X12_fitting : zCe mX12_fitting 1 := ⟨zm7 152 rfl rfl, by decide, by decide +kernel, by decide +kernel, by decide +kernel⟩
abbrev mX12_stories : zMI := (yX12_stories, cX12_stories, 3, (some .int))
theorem ce_X12_stories : zCe mX12_stories 1 := ⟨zm7 148 rfl rfl, by decide, by decide +kernel, by decide +kernel, by decide +kernel⟩
abbrev mX12_liar : zMI := (yX12_liar, cX12_liar, 2, (some .int))
theorem ce_X12_liar : zCe mX12_liar 0 := ⟨zm7 164 rfl rfl, by decide, by decide +kernel, by decide +kernel, by decide +kernel⟩
abbrev mX12_seed : zMI := (yX12_seed, cX12_seed, 2, (some .int))
theorem ce_X12_seed : zCe mX12_seed 1 := ⟨zm7 168 rfl rfl, by decide, by decide +kernel, by decide +kernel, by decide +kernel⟩
abbrev mX12_byLot : zMI := (yX12_byLot, cX12_byLot, 1, (some .int))
theorem ce_X12_byLot : zCe mX12_byLot 0 := ⟨zm7 176 rfl rfl, by decide, by decide +kernel, by decide +kernel, by decide +kernel⟩
abbrev mX12_lot : zMI := (yX12_lot, cX12_lot, 1, (some .int))
theorem ce_X12_lot : zCe mX12_lot 0 := ⟨zm7 172 rfl rfl, by decide, by decide +kernel, by decide +kernel, by decide +kernel⟩
abbrev mX12_times : zMI := (yX12_times, cX12_times, 7, (some .int))
theorem ce_X12_times : zCe mX12_times 2 := ⟨zm7 181 rfl rfl, by decide, by decide +kernel, by decide +kernel, by decide +kernel⟩
abbrev mX12_prove : zMI := (yX12_prove, cX12_prove, 3, (some .int))
theorem ce_X12_prove : zCe mX12_prove 1 := ⟨zm7 185 rfl rfl, by decide, by decide +kernel, by decide +kernel, by decide +kernel⟩
abbrev mX12_isRow : zMI := (yX12_isRow, cX12_isRow, 3, (some .boolean))
theorem ce_X12_isRow : zCe mX12_isRow 2 := ⟨zm7 193 rfl rfl, by decide, by decide +kernel, by decide +kernel, by decide +kernel⟩
abbrev mX12_row : zMI := (yX12_row, cX12_row, 3, (some .int))
theorem ce_X12_row : zCe mX12_row 2 := ⟨zm7 189 rfl rfl, by decide, by decide +kernel, by decide +kernel, by decide +kernel⟩
abbrev mX12_alterRow : zMI := (yX12_alterRow, cX12_alterRow, 5, (some .int))
theorem ce_X12_alterRow : zCe mX12_alterRow 3 := ⟨zm7 197 rfl rfl, by decide, by decide +kernel, by decide +kernel, by decide +kernel⟩
abbrev mX12_judge : zMI := (yX12_judge, cX12_judge, 6, (some .int))
theorem ce_X12_judge : zCe mX12_judge 0 := ⟨zm7 201 rfl rfl, by decide, by decide +kernel, by decide +kernel, by decide +kernel⟩
abbrev mX12_isSheet : zMI := (yX12_isSheet, cX12_isSheet, 1, (some .boolean))
theorem ce_X12_isSheet : zCe mX12_isSheet 1 := ⟨zm7 212 rfl rfl, by decide, by decide +kernel, by decide +kernel, by decide +kernel⟩
abbrev mX12_sheet : zMI := (yX12_sheet, cX12_sheet, 5, (some .int))
theorem ce_X12_sheet : zCe mX12_sheet 3 := ⟨zm7 209 rfl rfl, by decide, by decide +kernel, by decide +kernel, by decide +kernel⟩
abbrev mX12_narrowed : zMI := (yX12_narrowed, cX12_narrowed, 2, (some .int))
theorem ce_X12_narrowed : zCe mX12_narrowed 2 := ⟨zm7 219 rfl rfl, by decide, by decide +kernel, by decide +kernel, by decide +kernel⟩
abbrev mX12_write : zMI := (yX12_write, cX12_write, 4, (some .int))
theorem ce_X12_write : zCe mX12_write 3 := ⟨zm7 216 rfl rfl, by decide, by decide +kernel, by decide +kernel, by decide +kernel⟩
abbrev mX12_lacks : zMI := (yX12_lacks, cX12_lacks, 3, (some .int))
theorem ce_X12_lacks : zCe mX12_lacks 2 := ⟨zm7 227 rfl rfl, by decide, by decide +kernel, by decide +kernel, by decide +kernel⟩
abbrev mX12_item : zMI := (yX12_item, cX12_item, 5, (some .int))
theorem ce_X12_item : zCe mX12_item 3 := ⟨zm7 223 rfl rfl, by decide, by decide +kernel, by decide +kernel, by decide +kernel⟩
abbrev mX12_isItem : zMI := (yX12_isItem, cX12_isItem, 4, (some .boolean))
theorem ce_X12_isItem : zCe mX12_isItem 3 := ⟨zm7 235 rfl rfl, by decide, by decide +kernel, by decide +kernel, by decide +kernel⟩
abbrev mX12_goAll : zMI := (yX12_goAll, cX12_goAll, 8, (some .int))
theorem ce_X12_goAll : zCe mX12_goAll 3 := ⟨zm7 231 rfl rfl, by decide, by decide +kernel, by decide +kernel, by decide +kernel⟩
abbrev mX12_wouldBe : zMI := (yX12_wouldBe, cX12_wouldBe, 8, (some .int))
theorem ce_X12_wouldBe : zCe mX12_wouldBe 3 := ⟨zm7 239 rfl rfl, by decide, by decide +kernel, by decide +kernel, by decide +kernel⟩
abbrev mX12_shelf : zMI := (yX12_shelf, cX12_shelf, 4, (some .int))
theorem ce_X12_shelf : zCe mX12_shelf 3 := ⟨zm8 3 rfl rfl, by decide, by decide +kernel, by decide +kernel, by decide +kernel⟩
abbrev mX12_heldOn : zMI := (yX12_heldOn, cX12_heldOn, 2, (some .int))
theorem ce_X12_heldOn : zCe mX12_heldOn 1 := ⟨zm8 11 rfl rfl, by decide, by decide +kernel, by decide +kernel, by decide +kernel⟩
abbrev mX12_taken : zMI := (yX12_taken, cX12_taken, 5, (some .int))
theorem ce_X12_taken : zCe mX12_taken 2 := ⟨zm8 7 rfl rfl, by decide, by decide +kernel, by decide +kernel, by decide +kernel⟩
abbrev mX12_starts : zMI := (yX12_starts, cX12_starts, 2, none)
theorem ce_X12_starts : zCe mX12_starts 1 := ⟨zm8 23 rfl rfl, by decide, by decide +kernel, by decide +kernel, by decide +kernel⟩
abbrev mX12_knocksAs : zMI := (yX12_knocksAs, cX12_knocksAs, 3, (some .int))
theorem ce_X12_knocksAs : zCe mX12_knocksAs 2 := ⟨zm8 19 rfl rfl, by decide, by decide +kernel, by decide +kernel, by decide +kernel⟩
abbrev mX12_waitsAs : zMI := (yX12_waitsAs, cX12_waitsAs, 3, (some .int))
theorem ce_X12_waitsAs : zCe mX12_waitsAs 2 := ⟨zm8 27 rfl rfl, by decide, by decide +kernel, by decide +kernel, by decide +kernel⟩
abbrev mX12_countsAs : zMI := (yX12_countsAs, cX12_countsAs, 4, (some .int))
theorem ce_X12_countsAs : zCe mX12_countsAs 2 := ⟨zm8 31 rfl rfl, by decide, by decide +kernel, by decide +kernel, by decide +kernel⟩
abbrev mX12_sitsAs : zMI := (yX12_sitsAs, cX12_sitsAs, 4, (some .int))
theorem ce_X12_sitsAs : zCe mX12_sitsAs 2 := ⟨zm8 35 rfl rfl, by decide, by decide +kernel, by decide +kernel, by decide +kernel⟩
abbrev mX12_act : zMI := (yX12_act, cX12_act, 6, (some .int))
theorem ce_X12_act : zCe mX12_act 3 := ⟨zm8 15 rfl rfl, by decide, by decide +kernel, by decide +kernel, by decide +kernel⟩
abbrev mX12_trace : zMI := (yX12_trace, cX12_trace, 2, (some .int))
theorem ce_X12_trace : zCe mX12_trace 1 := ⟨zm8 39 rfl rfl, by decide, by decide +kernel, by decide +kernel, by decide +kernel⟩
abbrev mX12_ones : zMI := (yX12_ones, cX12_ones, 3, (some .int))
theorem ce_X12_ones : zCe mX12_ones 1 := ⟨zm8 46 rfl rfl, by decide, by decide +kernel, by decide +kernel, by decide +kernel⟩
abbrev mX12_many : zMI := (yX12_many, cX12_many, 2, (some .int))
theorem ce_X12_many : zCe mX12_many 1 := ⟨zm8 43 rfl rfl, by decide, by decide +kernel, by decide +kernel, by decide +kernel⟩
abbrev mX12_keep : zMI := (yX12_keep, cX12_keep, 2, (some .int))
theorem ce_X12_keep : zCe mX12_keep 0 := ⟨zm8 50 rfl rfl, by decide, by decide +kernel, by decide +kernel, by decide +kernel⟩
abbrev mX12_again : zMI := (yX12_again, cX12_again, 2, (some .int))
theorem ce_X12_again : zCe mX12_again 0 := ⟨zm8 54 rfl rfl, by decide, by decide +kernel, by decide +kernel, by decide +kernel⟩
abbrev mJ6_bitCount_0f7a4 : zMI := (yJ6_bitCount_0f7a4, cJ6_bitCount_0f7a4, 1, (some .int))
theorem ce_J6_bitCount_0f7a4 : zCe mJ6_bitCount_0f7a4 1 := ⟨zm4 160 rfl rfl, by decide, by decide +kernel, by decide +kernel, by decide +kernel⟩
abbrev mJ7_fill_d0a16 : zMI := (yJ7_fill_d0a16, cJ7_fill_d0a16, 5, none)
theorem ce_J7_fill_d0a16 : zCe mJ7_fill_d0a16 2 := ⟨zm4 218 rfl rfl, by decide, by decide +kernel, by decide +kernel, by decide +kernel⟩
abbrev mJ7_fill_53178 : zMI := (yJ7_fill_53178, cJ7_fill_53178, 4, none)
theorem ce_J7_fill_53178 : zCe mJ7_fill_53178 2 := ⟨zm1 203 rfl rfl, by decide, by decide +kernel, by decide +kernel, by decide +kernel⟩
theorem uw_X0 : ∀ v ∈ u_ws RX0 TX0 5, v ∈ zTw := by
  intro v h
  obtain ⟨k, hk, rfl⟩ := List.mem_map.mp h
  have hk := List.mem_range.mp hk
  match k, hk with
  | 0, _ => exact zm1 69 rfl rfl
  | 1, _ => exact zm1 70 rfl rfl
  | 2, _ => exact zm1 71 rfl rfl
  | 3, _ => exact zm1 72 rfl rfl
  | 4, _ => exact zm1 73 rfl rfl
  | k + 5, h => exact absurd h (by omega)
theorem fpq_X0 : (∀ k, k < 5 → parseFieldDescriptor (TX0 k).2.2.1 = some (tyX0 k)) ∧ (∀ a, a < 5 → ∀ b, b < 5 → a ≠ b → (TX0 a).2.1 ≠ (TX0 b).2.1) := ⟨tyX0_ok, nmX0⟩
theorem uw_X1 : ∀ v ∈ u_ws RX1 TX1 5, v ∈ zTw := by
  intro v h
  obtain ⟨k, hk, rfl⟩ := List.mem_map.mp h
  have hk := List.mem_range.mp hk
  match k, hk with
  | 0, _ => exact zm1 105 rfl rfl
  | 1, _ => exact zm1 106 rfl rfl
  | 2, _ => exact zm1 107 rfl rfl
  | 3, _ => exact zm1 108 rfl rfl
  | 4, _ => exact zm1 109 rfl rfl
  | k + 5, h => exact absurd h (by omega)
theorem fpq_X1 : (∀ k, k < 5 → parseFieldDescriptor (TX1 k).2.2.1 = some (tyX1 k)) ∧ (∀ a, a < 5 → ∀ b, b < 5 → a ≠ b → (TX1 a).2.1 ≠ (TX1 b).2.1) := ⟨tyX1_ok, nmX1⟩
theorem uw_X2 : ∀ v ∈ u_ws RX2 TX2 5, v ∈ zTw := by
  intro v h
  obtain ⟨k, hk, rfl⟩ := List.mem_map.mp h
  have hk := List.mem_range.mp hk
  match k, hk with
  | 0, _ => exact zm1 51 rfl rfl
  | 1, _ => exact zm1 53 rfl rfl
  | 2, _ => exact zm1 55 rfl rfl
  | 3, _ => exact zm1 57 rfl rfl
  | 4, _ => exact zm1 59 rfl rfl
  | k + 5, h => exact absurd h (by omega)
theorem fpq_X2 : (∀ k, k < 5 → parseFieldDescriptor (TX2 k).2.2.1 = some (tyX2 k)) ∧ (∀ a, a < 5 → ∀ b, b < 5 → a ≠ b → (TX2 a).2.1 ≠ (TX2 b).2.1) := ⟨tyX2_ok, nmX2⟩
theorem uw_X3 : ∀ v ∈ u_ws RX3 TX3 5, v ∈ zTw := by
  intro v h
  obtain ⟨k, hk, rfl⟩ := List.mem_map.mp h
  have hk := List.mem_range.mp hk
  match k, hk with
  | 0, _ => exact zm1 117 rfl rfl
  | 1, _ => exact zm1 118 rfl rfl
  | 2, _ => exact zm1 119 rfl rfl
  | 3, _ => exact zm1 120 rfl rfl
  | 4, _ => exact zm1 121 rfl rfl
  | k + 5, h => exact absurd h (by omega)
theorem fpq_X3 : (∀ k, k < 5 → parseFieldDescriptor (TX3 k).2.2.1 = some (tyX3 k)) ∧ (∀ a, a < 5 → ∀ b, b < 5 → a ≠ b → (TX3 a).2.1 ≠ (TX3 b).2.1) := ⟨tyX3_ok, nmX3⟩
theorem uw_X4 : ∀ v ∈ u_ws RX4 TX4 9, v ∈ zTw := by
  intro v h
  obtain ⟨k, hk, rfl⟩ := List.mem_map.mp h
  have hk := List.mem_range.mp hk
  match k, hk with
  | 0, _ => exact zm2 93 rfl rfl
  | 1, _ => exact zm2 95 rfl rfl
  | 2, _ => exact zm2 97 rfl rfl
  | 3, _ => exact zm2 99 rfl rfl
  | 4, _ => exact zm2 101 rfl rfl
  | 5, _ => exact zm2 103 rfl rfl
  | 6, _ => exact zm2 105 rfl rfl
  | 7, _ => exact zm2 107 rfl rfl
  | 8, _ => exact zm2 109 rfl rfl
  | k + 9, h => exact absurd h (by omega)
theorem fpq_X4 : (∀ k, k < 9 → parseFieldDescriptor (TX4 k).2.2.1 = some (tyX4 k)) ∧ (∀ a, a < 9 → ∀ b, b < 9 → a ≠ b → (TX4 a).2.1 ≠ (TX4 b).2.1) := ⟨tyX4_ok, nmX4⟩
theorem uw_X5 : ∀ v ∈ u_ws RX5 TX5 8, v ∈ zTw := by
  intro v h
  obtain ⟨k, hk, rfl⟩ := List.mem_map.mp h
  have hk := List.mem_range.mp hk
  match k, hk with
  | 0, _ => exact zm1 184 rfl rfl
  | 1, _ => exact zm1 186 rfl rfl
  | 2, _ => exact zm1 188 rfl rfl
  | 3, _ => exact zm1 190 rfl rfl
  | 4, _ => exact zm1 192 rfl rfl
  | 5, _ => exact zm1 194 rfl rfl
  | 6, _ => exact zm1 196 rfl rfl
  | 7, _ => exact zm1 198 rfl rfl
  | k + 8, h => exact absurd h (by omega)
theorem fpq_X5 : (∀ k, k < 8 → parseFieldDescriptor (TX5 k).2.2.1 = some (tyX5 k)) ∧ (∀ a, a < 8 → ∀ b, b < 8 → a ≠ b → (TX5 a).2.1 ≠ (TX5 b).2.1) := ⟨tyX5_ok, nmX5⟩
theorem uw_X6 : ∀ v ∈ u_ws RX6 TX6 7, v ∈ zTw := by
  intro v h
  obtain ⟨k, hk, rfl⟩ := List.mem_map.mp h
  have hk := List.mem_range.mp hk
  match k, hk with
  | 0, _ => exact zm2 56 rfl rfl
  | 1, _ => exact zm2 58 rfl rfl
  | 2, _ => exact zm2 60 rfl rfl
  | 3, _ => exact zm2 62 rfl rfl
  | 4, _ => exact zm2 64 rfl rfl
  | 5, _ => exact zm2 66 rfl rfl
  | 6, _ => exact zm2 68 rfl rfl
  | k + 7, h => exact absurd h (by omega)
theorem fpq_X6 : (∀ k, k < 7 → parseFieldDescriptor (TX6 k).2.2.1 = some (tyX6 k)) ∧ (∀ a, a < 7 → ∀ b, b < 7 → a ≠ b → (TX6 a).2.1 ≠ (TX6 b).2.1) := ⟨tyX6_ok, nmX6⟩
theorem uw_X7 : ∀ v ∈ u_ws RX7 TX7 9, v ∈ zTw := by
  intro v h
  obtain ⟨k, hk, rfl⟩ := List.mem_map.mp h
  have hk := List.mem_range.mp hk
  match k, hk with
  | 0, _ => exact zm1 147 rfl rfl
  | 1, _ => exact zm1 149 rfl rfl
  | 2, _ => exact zm1 151 rfl rfl
  | 3, _ => exact zm1 153 rfl rfl
  | 4, _ => exact zm1 155 rfl rfl
  | 5, _ => exact zm1 157 rfl rfl
  | 6, _ => exact zm1 159 rfl rfl
  | 7, _ => exact zm1 161 rfl rfl
  | 8, _ => exact zm1 163 rfl rfl
  | k + 9, h => exact absurd h (by omega)
theorem fpq_X7 : (∀ k, k < 9 → parseFieldDescriptor (TX7 k).2.2.1 = some (tyX7 k)) ∧ (∀ a, a < 9 → ∀ b, b < 9 → a ≠ b → (TX7 a).2.1 ≠ (TX7 b).2.1) := ⟨tyX7_ok, nmX7⟩
theorem uw_X8 : ∀ v ∈ u_ws RX8 TX8 5, v ∈ zTw := by
  intro v h
  obtain ⟨k, hk, rfl⟩ := List.mem_map.mp h
  have hk := List.mem_range.mp hk
  match k, hk with
  | 0, _ => exact zm1 81 rfl rfl
  | 1, _ => exact zm1 82 rfl rfl
  | 2, _ => exact zm1 83 rfl rfl
  | 3, _ => exact zm1 84 rfl rfl
  | 4, _ => exact zm1 85 rfl rfl
  | k + 5, h => exact absurd h (by omega)
theorem fpq_X8 : (∀ k, k < 5 → parseFieldDescriptor (TX8 k).2.2.1 = some (tyX8 k)) ∧ (∀ a, a < 5 → ∀ b, b < 5 → a ≠ b → (TX8 a).2.1 ≠ (TX8 b).2.1) := ⟨tyX8_ok, nmX8⟩
theorem uw_X9 : ∀ v ∈ u_ws RX9 TX9 5, v ∈ zTw := by
  intro v h
  obtain ⟨k, hk, rfl⟩ := List.mem_map.mp h
  have hk := List.mem_range.mp hk
  match k, hk with
  | 0, _ => exact zm1 93 rfl rfl
  | 1, _ => exact zm1 94 rfl rfl
  | 2, _ => exact zm1 95 rfl rfl
  | 3, _ => exact zm1 96 rfl rfl
  | 4, _ => exact zm1 97 rfl rfl
  | k + 5, h => exact absurd h (by omega)
theorem fpq_X9 : (∀ k, k < 5 → parseFieldDescriptor (TX9 k).2.2.1 = some (tyX9 k)) ∧ (∀ a, a < 5 → ∀ b, b < 5 → a ≠ b → (TX9 a).2.1 ≠ (TX9 b).2.1) := ⟨tyX9_ok, nmX9⟩
theorem uw_X10 : ∀ v ∈ u_ws RX10 TX10 18, v ∈ zTw := by
  intro v h
  obtain ⟨k, hk, rfl⟩ := List.mem_map.mp h
  have hk := List.mem_range.mp hk
  match k, hk with
  | 0, _ => exact zm2 3 rfl rfl
  | 1, _ => exact zm2 5 rfl rfl
  | 2, _ => exact zm2 7 rfl rfl
  | 3, _ => exact zm2 9 rfl rfl
  | 4, _ => exact zm2 11 rfl rfl
  | 5, _ => exact zm2 13 rfl rfl
  | 6, _ => exact zm2 15 rfl rfl
  | 7, _ => exact zm2 17 rfl rfl
  | 8, _ => exact zm2 19 rfl rfl
  | 9, _ => exact zm2 21 rfl rfl
  | 10, _ => exact zm2 23 rfl rfl
  | 11, _ => exact zm2 25 rfl rfl
  | 12, _ => exact zm2 27 rfl rfl
  | 13, _ => exact zm2 29 rfl rfl
  | 14, _ => exact zm2 31 rfl rfl
  | 15, _ => exact zm2 33 rfl rfl
  | 16, _ => exact zm2 35 rfl rfl
  | 17, _ => exact zm2 37 rfl rfl
  | k + 18, h => exact absurd h (by omega)
theorem fpq_X10 : (∀ k, k < 18 → parseFieldDescriptor (TX10 k).2.2.1 = some (tyX10 k)) ∧ (∀ a, a < 18 → ∀ b, b < 18 → a ≠ b → (TX10 a).2.1 ≠ (TX10 b).2.1) := ⟨tyX10_ok, nmX10⟩
theorem uw_X11 : ∀ v ∈ u_ws RX11 TX11 16, v ∈ zTw := by
  intro v h
  obtain ⟨k, hk, rfl⟩ := List.mem_map.mp h
  have hk := List.mem_range.mp hk
  match k, hk with
  | 0, _ => exact zm2 130 rfl rfl
  | 1, _ => exact zm2 132 rfl rfl
  | 2, _ => exact zm2 134 rfl rfl
  | 3, _ => exact zm2 136 rfl rfl
  | 4, _ => exact zm2 138 rfl rfl
  | 5, _ => exact zm2 140 rfl rfl
  | 6, _ => exact zm2 142 rfl rfl
  | 7, _ => exact zm2 144 rfl rfl
  | 8, _ => exact zm2 146 rfl rfl
  | 9, _ => exact zm2 148 rfl rfl
  | 10, _ => exact zm2 150 rfl rfl
  | 11, _ => exact zm2 152 rfl rfl
  | 12, _ => exact zm2 154 rfl rfl
  | 13, _ => exact zm2 156 rfl rfl
  | 14, _ => exact zm2 158 rfl rfl
  | 15, _ => exact zm2 160 rfl rfl
  | k + 16, h => exact absurd h (by omega)
theorem fpq_X11 : (∀ k, k < 16 → parseFieldDescriptor (TX11 k).2.2.1 = some (tyX11 k)) ∧ (∀ a, a < 16 → ∀ b, b < 16 → a ≠ b → (TX11 a).2.1 ≠ (TX11 b).2.1) := ⟨tyX11_ok, nmX11⟩
theorem uw_X12 : ∀ v ∈ u_ws RX12 TX12 39, v ∈ zTw := by
  intro v h
  obtain ⟨k, hk, rfl⟩ := List.mem_map.mp h
  have hk := List.mem_range.mp hk
  match k, hk with
  | 0, _ => exact zm5 196 rfl rfl
  | 1, _ => exact zm5 198 rfl rfl
  | 2, _ => exact zm5 200 rfl rfl
  | 3, _ => exact zm5 202 rfl rfl
  | 4, _ => exact zm5 204 rfl rfl
  | 5, _ => exact zm5 206 rfl rfl
  | 6, _ => exact zm5 208 rfl rfl
  | 7, _ => exact zm5 210 rfl rfl
  | 8, _ => exact zm5 212 rfl rfl
  | 9, _ => exact zm5 214 rfl rfl
  | 10, _ => exact zm5 216 rfl rfl
  | 11, _ => exact zm5 218 rfl rfl
  | 12, _ => exact zm5 220 rfl rfl
  | 13, _ => exact zm5 222 rfl rfl
  | 14, _ => exact zm5 224 rfl rfl
  | 15, _ => exact zm5 226 rfl rfl
  | 16, _ => exact zm5 228 rfl rfl
  | 17, _ => exact zm5 230 rfl rfl
  | 18, _ => exact zm5 232 rfl rfl
  | 19, _ => exact zm5 234 rfl rfl
  | 20, _ => exact zm5 236 rfl rfl
  | 21, _ => exact zm5 238 rfl rfl
  | 22, _ => exact zm6 0 rfl rfl
  | 23, _ => exact zm6 2 rfl rfl
  | 24, _ => exact zm6 4 rfl rfl
  | 25, _ => exact zm6 6 rfl rfl
  | 26, _ => exact zm6 8 rfl rfl
  | 27, _ => exact zm6 10 rfl rfl
  | 28, _ => exact zm6 12 rfl rfl
  | 29, _ => exact zm6 14 rfl rfl
  | 30, _ => exact zm6 16 rfl rfl
  | 31, _ => exact zm6 18 rfl rfl
  | 32, _ => exact zm6 20 rfl rfl
  | 33, _ => exact zm6 22 rfl rfl
  | 34, _ => exact zm6 24 rfl rfl
  | 35, _ => exact zm6 26 rfl rfl
  | 36, _ => exact zm6 28 rfl rfl
  | 37, _ => exact zm6 30 rfl rfl
  | 38, _ => exact zm6 32 rfl rfl
  | k + 39, h => exact absurd h (by omega)
theorem fpq_X12 : (∀ k, k < 39 → parseFieldDescriptor (TX12 k).2.2.1 = some (tyX12 k)) ∧ (∀ a, a < 39 → ∀ b, b < 39 → a ≠ b → (TX12 a).2.1 ≠ (TX12 b).2.1) := ⟨tyX12_ok, nmX12⟩
theorem fd_X2_15_X0 : zFd RX2 15 0 0 5 RX0 RX2 TX0 := ⟨rfl, by decide, uw_X0, zm1 37 rfl rfl, fun _ _ _ x h => h⟩
theorem fp_X0_0 : zFp RX0 TX0 0 5 tyX0 := ⟨fpq_X0.1, fpq_X0.2, rfl⟩
theorem fd_X2_15_X1 : zFd RX2 15 1 0 5 RX1 RX2 TX1 := ⟨rfl, by decide, uw_X1, zm1 37 rfl rfl, fun _ _ _ x h => h⟩
theorem fp_X1_0 : zFp RX1 TX1 0 5 tyX1 := ⟨fpq_X1.1, fpq_X1.2, rfl⟩
theorem fd_X2_15_X2 : zFd RX2 15 2 0 5 RX2 RX2 TX2 := ⟨rfl, by decide, uw_X2, zm1 37 rfl rfl, fun _ _ _ x h => h⟩
theorem fp_X2_0 : zFp RX2 TX2 0 5 tyX2 := ⟨fpq_X2.1, fpq_X2.2, rfl⟩
theorem fd_X2_15_X3 : zFd RX2 15 3 0 5 RX3 RX2 TX3 := ⟨rfl, by decide, uw_X3, zm1 37 rfl rfl, fun _ _ _ x h => h⟩
theorem fp_X3_0 : zFp RX3 TX3 0 5 tyX3 := ⟨fpq_X3.1, fpq_X3.2, rfl⟩
theorem fd_X2_15_X8 : zFd RX2 15 8 0 5 RX8 RX2 TX8 := ⟨rfl, by decide, uw_X8, zm1 37 rfl rfl, fun _ _ _ x h => h⟩
theorem fp_X8_0 : zFp RX8 TX8 0 5 tyX8 := ⟨fpq_X8.1, fpq_X8.2, rfl⟩
theorem fd_X2_15_X9 : zFd RX2 15 9 0 5 RX9 RX2 TX9 := ⟨rfl, by decide, uw_X9, zm1 37 rfl rfl, fun _ _ _ x h => h⟩
theorem fp_X9_0 : zFp RX9 TX9 0 5 tyX9 := ⟨fpq_X9.1, fpq_X9.2, rfl⟩
theorem fd_X3_20_X3 : zFd RX3 20 3 0 5 RX3 RX3 TX3 := ⟨rfl, by decide, uw_X3, zm1 38 rfl rfl, fun args s hts x h => u_same (hts _ (zm1 39 rfl rfl)) x h⟩
theorem fd_X9_20_X9 : zFd RX9 20 9 0 5 RX9 RX9 TX9 := ⟨rfl, by decide, uw_X9, zm1 40 rfl rfl, fun args s hts x h => u_same (hts _ (zm1 41 rfl rfl)) x h⟩
theorem fd_X2_19_X0 : zFd RX2 19 0 1 5 RX0 RX2 TX0 := ⟨rfl, by decide, uw_X0, zm1 42 rfl rfl, fun _ _ _ x h => h⟩
theorem fp_X0_1 : zFp RX0 TX0 1 5 tyX0 := ⟨fpq_X0.1, fpq_X0.2, rfl⟩
theorem fd_X2_19_X1 : zFd RX2 19 1 1 5 RX1 RX2 TX1 := ⟨rfl, by decide, uw_X1, zm1 42 rfl rfl, fun _ _ _ x h => h⟩
theorem fp_X1_1 : zFp RX1 TX1 1 5 tyX1 := ⟨fpq_X1.1, fpq_X1.2, rfl⟩
theorem fd_X2_19_X2 : zFd RX2 19 2 1 5 RX2 RX2 TX2 := ⟨rfl, by decide, uw_X2, zm1 42 rfl rfl, fun _ _ _ x h => h⟩
theorem fp_X2_1 : zFp RX2 TX2 1 5 tyX2 := ⟨fpq_X2.1, fpq_X2.2, rfl⟩
theorem fd_X2_19_X3 : zFd RX2 19 3 1 5 RX3 RX2 TX3 := ⟨rfl, by decide, uw_X3, zm1 42 rfl rfl, fun _ _ _ x h => h⟩
theorem fp_X3_1 : zFp RX3 TX3 1 5 tyX3 := ⟨fpq_X3.1, fpq_X3.2, rfl⟩
theorem fd_X2_19_X8 : zFd RX2 19 8 1 5 RX8 RX2 TX8 := ⟨rfl, by decide, uw_X8, zm1 42 rfl rfl, fun _ _ _ x h => h⟩
theorem fp_X8_1 : zFp RX8 TX8 1 5 tyX8 := ⟨fpq_X8.1, fpq_X8.2, rfl⟩
theorem fd_X2_19_X9 : zFd RX2 19 9 1 5 RX9 RX2 TX9 := ⟨rfl, by decide, uw_X9, zm1 42 rfl rfl, fun _ _ _ x h => h⟩
theorem fp_X9_1 : zFp RX9 TX9 1 5 tyX9 := ⟨fpq_X9.1, fpq_X9.2, rfl⟩
theorem fd_X8_13_X8 : zFd RX8 13 8 1 5 RX8 RX8 TX8 := ⟨rfl, by decide, uw_X8, zm1 43 rfl rfl, fun args s hts x h => u_same (hts _ (zm1 44 rfl rfl)) x h⟩
theorem fd_X8_13_X9 : zFd RX8 13 9 1 5 RX9 RX8 TX9 := ⟨rfl, by decide, uw_X9, zm1 43 rfl rfl, fun args s hts x h => u_same (hts _ (zm1 44 rfl rfl)) x h⟩
theorem fd_X2_9_X0 : zFd RX2 9 0 2 5 RX0 RX2 TX0 := ⟨rfl, by decide, uw_X0, zm1 45 rfl rfl, fun _ _ _ x h => h⟩
theorem fd_X2_9_X1 : zFd RX2 9 1 2 5 RX1 RX2 TX1 := ⟨rfl, by decide, uw_X1, zm1 45 rfl rfl, fun _ _ _ x h => h⟩
theorem fd_X2_9_X2 : zFd RX2 9 2 2 5 RX2 RX2 TX2 := ⟨rfl, by decide, uw_X2, zm1 45 rfl rfl, fun _ _ _ x h => h⟩
theorem fd_X2_9_X3 : zFd RX2 9 3 2 5 RX3 RX2 TX3 := ⟨rfl, by decide, uw_X3, zm1 45 rfl rfl, fun _ _ _ x h => h⟩
theorem fd_X2_9_X8 : zFd RX2 9 8 2 5 RX8 RX2 TX8 := ⟨rfl, by decide, uw_X8, zm1 45 rfl rfl, fun _ _ _ x h => h⟩
theorem fd_X2_9_X9 : zFd RX2 9 9 2 5 RX9 RX2 TX9 := ⟨rfl, by decide, uw_X9, zm1 45 rfl rfl, fun _ _ _ x h => h⟩
theorem fd_X11_350_X0 : zFd RX11 350 0 2 5 RX0 RX2 TX0 := ⟨rfl, by decide, uw_X0, zm1 46 rfl rfl, fun _ _ _ x h => h⟩
theorem fd_X11_350_X1 : zFd RX11 350 1 2 5 RX1 RX2 TX1 := ⟨rfl, by decide, uw_X1, zm1 46 rfl rfl, fun _ _ _ x h => h⟩
theorem fd_X11_350_X2 : zFd RX11 350 2 2 5 RX2 RX2 TX2 := ⟨rfl, by decide, uw_X2, zm1 46 rfl rfl, fun _ _ _ x h => h⟩
theorem fd_X11_350_X3 : zFd RX11 350 3 2 5 RX3 RX2 TX3 := ⟨rfl, by decide, uw_X3, zm1 46 rfl rfl, fun _ _ _ x h => h⟩
theorem fd_X11_350_X8 : zFd RX11 350 8 2 5 RX8 RX2 TX8 := ⟨rfl, by decide, uw_X8, zm1 46 rfl rfl, fun _ _ _ x h => h⟩
theorem fd_X11_350_X9 : zFd RX11 350 9 2 5 RX9 RX2 TX9 := ⟨rfl, by decide, uw_X9, zm1 46 rfl rfl, fun _ _ _ x h => h⟩
theorem fd_X2_22_X0 : zFd RX2 22 0 3 5 RX0 RX2 TX0 := ⟨rfl, by decide, uw_X0, zm1 47 rfl rfl, fun _ _ _ x h => h⟩
theorem fp_X0_3 : zFp RX0 TX0 3 5 tyX0 := ⟨fpq_X0.1, fpq_X0.2, rfl⟩
theorem fd_X2_22_X1 : zFd RX2 22 1 3 5 RX1 RX2 TX1 := ⟨rfl, by decide, uw_X1, zm1 47 rfl rfl, fun _ _ _ x h => h⟩
theorem fp_X1_3 : zFp RX1 TX1 3 5 tyX1 := ⟨fpq_X1.1, fpq_X1.2, rfl⟩
theorem fd_X2_22_X2 : zFd RX2 22 2 3 5 RX2 RX2 TX2 := ⟨rfl, by decide, uw_X2, zm1 47 rfl rfl, fun _ _ _ x h => h⟩
theorem fp_X2_3 : zFp RX2 TX2 3 5 tyX2 := ⟨fpq_X2.1, fpq_X2.2, rfl⟩
theorem fd_X2_22_X3 : zFd RX2 22 3 3 5 RX3 RX2 TX3 := ⟨rfl, by decide, uw_X3, zm1 47 rfl rfl, fun _ _ _ x h => h⟩
theorem fp_X3_3 : zFp RX3 TX3 3 5 tyX3 := ⟨fpq_X3.1, fpq_X3.2, rfl⟩
theorem fd_X2_22_X8 : zFd RX2 22 8 3 5 RX8 RX2 TX8 := ⟨rfl, by decide, uw_X8, zm1 47 rfl rfl, fun _ _ _ x h => h⟩
theorem fp_X8_3 : zFp RX8 TX8 3 5 tyX8 := ⟨fpq_X8.1, fpq_X8.2, rfl⟩
theorem fd_X2_22_X9 : zFd RX2 22 9 3 5 RX9 RX2 TX9 := ⟨rfl, by decide, uw_X9, zm1 47 rfl rfl, fun _ _ _ x h => h⟩
theorem fp_X9_3 : zFp RX9 TX9 3 5 tyX9 := ⟨fpq_X9.1, fpq_X9.2, rfl⟩
theorem fd_X11_347_X0 : zFd RX11 347 0 3 5 RX0 RX2 TX0 := ⟨rfl, by decide, uw_X0, zm1 48 rfl rfl, fun _ _ _ x h => h⟩
theorem fd_X11_347_X1 : zFd RX11 347 1 3 5 RX1 RX2 TX1 := ⟨rfl, by decide, uw_X1, zm1 48 rfl rfl, fun _ _ _ x h => h⟩
theorem fd_X11_347_X2 : zFd RX11 347 2 3 5 RX2 RX2 TX2 := ⟨rfl, by decide, uw_X2, zm1 48 rfl rfl, fun _ _ _ x h => h⟩
theorem fd_X11_347_X3 : zFd RX11 347 3 3 5 RX3 RX2 TX3 := ⟨rfl, by decide, uw_X3, zm1 48 rfl rfl, fun _ _ _ x h => h⟩
theorem fd_X11_347_X8 : zFd RX11 347 8 3 5 RX8 RX2 TX8 := ⟨rfl, by decide, uw_X8, zm1 48 rfl rfl, fun _ _ _ x h => h⟩
theorem fd_X11_347_X9 : zFd RX11 347 9 3 5 RX9 RX2 TX9 := ⟨rfl, by decide, uw_X9, zm1 48 rfl rfl, fun _ _ _ x h => h⟩
theorem fd_X2_25_X0 : zFd RX2 25 0 4 5 RX0 RX2 TX0 := ⟨rfl, by decide, uw_X0, zm1 49 rfl rfl, fun _ _ _ x h => h⟩
theorem fp_X0_4 : zFp RX0 TX0 4 5 tyX0 := ⟨fpq_X0.1, fpq_X0.2, rfl⟩
theorem fd_X2_25_X1 : zFd RX2 25 1 4 5 RX1 RX2 TX1 := ⟨rfl, by decide, uw_X1, zm1 49 rfl rfl, fun _ _ _ x h => h⟩
theorem fp_X1_4 : zFp RX1 TX1 4 5 tyX1 := ⟨fpq_X1.1, fpq_X1.2, rfl⟩
theorem fd_X2_25_X2 : zFd RX2 25 2 4 5 RX2 RX2 TX2 := ⟨rfl, by decide, uw_X2, zm1 49 rfl rfl, fun _ _ _ x h => h⟩
theorem fp_X2_4 : zFp RX2 TX2 4 5 tyX2 := ⟨fpq_X2.1, fpq_X2.2, rfl⟩
theorem fd_X2_25_X3 : zFd RX2 25 3 4 5 RX3 RX2 TX3 := ⟨rfl, by decide, uw_X3, zm1 49 rfl rfl, fun _ _ _ x h => h⟩
theorem fp_X3_4 : zFp RX3 TX3 4 5 tyX3 := ⟨fpq_X3.1, fpq_X3.2, rfl⟩
theorem fd_X2_25_X8 : zFd RX2 25 8 4 5 RX8 RX2 TX8 := ⟨rfl, by decide, uw_X8, zm1 49 rfl rfl, fun _ _ _ x h => h⟩
theorem fp_X8_4 : zFp RX8 TX8 4 5 tyX8 := ⟨fpq_X8.1, fpq_X8.2, rfl⟩
theorem fd_X2_25_X9 : zFd RX2 25 9 4 5 RX9 RX2 TX9 := ⟨rfl, by decide, uw_X9, zm1 49 rfl rfl, fun _ _ _ x h => h⟩
theorem fp_X9_4 : zFp RX9 TX9 4 5 tyX9 := ⟨fpq_X9.1, fpq_X9.2, rfl⟩
theorem fd_X11_343_X0 : zFd RX11 343 0 4 5 RX0 RX2 TX0 := ⟨rfl, by decide, uw_X0, zm1 50 rfl rfl, fun _ _ _ x h => h⟩
theorem fd_X11_343_X1 : zFd RX11 343 1 4 5 RX1 RX2 TX1 := ⟨rfl, by decide, uw_X1, zm1 50 rfl rfl, fun _ _ _ x h => h⟩
theorem fd_X11_343_X2 : zFd RX11 343 2 4 5 RX2 RX2 TX2 := ⟨rfl, by decide, uw_X2, zm1 50 rfl rfl, fun _ _ _ x h => h⟩
theorem fd_X11_343_X3 : zFd RX11 343 3 4 5 RX3 RX2 TX3 := ⟨rfl, by decide, uw_X3, zm1 50 rfl rfl, fun _ _ _ x h => h⟩
theorem fd_X11_343_X8 : zFd RX11 343 8 4 5 RX8 RX2 TX8 := ⟨rfl, by decide, uw_X8, zm1 50 rfl rfl, fun _ _ _ x h => h⟩
theorem fd_X11_343_X9 : zFd RX11 343 9 4 5 RX9 RX2 TX9 := ⟨rfl, by decide, uw_X9, zm1 50 rfl rfl, fun _ _ _ x h => h⟩
theorem fd_X7_9_X7 : zFd RX7 9 7 0 9 RX7 RX7 TX7 := ⟨rfl, by decide, uw_X7, zm1 135 rfl rfl, fun _ _ _ x h => h⟩
theorem fd_X7_15_X7 : zFd RX7 15 7 1 9 RX7 RX7 TX7 := ⟨rfl, by decide, uw_X7, zm1 136 rfl rfl, fun _ _ _ x h => h⟩
theorem fd_X7_18_X7 : zFd RX7 18 7 2 9 RX7 RX7 TX7 := ⟨rfl, by decide, uw_X7, zm1 137 rfl rfl, fun _ _ _ x h => h⟩
theorem fd_X7_21_X7 : zFd RX7 21 7 3 9 RX7 RX7 TX7 := ⟨rfl, by decide, uw_X7, zm1 138 rfl rfl, fun _ _ _ x h => h⟩
theorem fd_X7_24_X7 : zFd RX7 24 7 4 9 RX7 RX7 TX7 := ⟨rfl, by decide, uw_X7, zm1 139 rfl rfl, fun _ _ _ x h => h⟩
theorem fd_X7_27_X7 : zFd RX7 27 7 5 9 RX7 RX7 TX7 := ⟨rfl, by decide, uw_X7, zm1 140 rfl rfl, fun _ _ _ x h => h⟩
theorem fd_X7_30_X7 : zFd RX7 30 7 6 9 RX7 RX7 TX7 := ⟨rfl, by decide, uw_X7, zm1 141 rfl rfl, fun _ _ _ x h => h⟩
theorem fd_X7_33_X7 : zFd RX7 33 7 7 9 RX7 RX7 TX7 := ⟨rfl, by decide, uw_X7, zm1 142 rfl rfl, fun _ _ _ x h => h⟩
theorem fp_X7_7 : zFp RX7 TX7 7 9 tyX7 := ⟨fpq_X7.1, fpq_X7.2, rfl⟩
theorem fd_X6_43_X7 : zFd RX6 43 7 7 9 RX7 RX7 TX7 := ⟨rfl, by decide, uw_X7, zm1 143 rfl rfl, fun _ _ _ x h => h⟩
theorem fd_X11_353_X7 : zFd RX11 353 7 7 9 RX7 RX7 TX7 := ⟨rfl, by decide, uw_X7, zm1 144 rfl rfl, fun _ _ _ x h => h⟩
theorem fd_X7_37_X7 : zFd RX7 37 7 8 9 RX7 RX7 TX7 := ⟨rfl, by decide, uw_X7, zm1 145 rfl rfl, fun _ _ _ x h => h⟩
theorem fp_X7_8 : zFp RX7 TX7 8 9 tyX7 := ⟨fpq_X7.1, fpq_X7.2, rfl⟩
theorem fd_X6_44_X7 : zFd RX6 44 7 8 9 RX7 RX7 TX7 := ⟨rfl, by decide, uw_X7, zm1 146 rfl rfl, fun _ _ _ x h => h⟩
theorem fd_X5_9_X5 : zFd RX5 9 5 0 8 RX5 RX5 TX5 := ⟨rfl, by decide, uw_X5, zm1 172 rfl rfl, fun _ _ _ x h => h⟩
theorem fd_X5_15_X5 : zFd RX5 15 5 1 8 RX5 RX5 TX5 := ⟨rfl, by decide, uw_X5, zm1 173 rfl rfl, fun _ _ _ x h => h⟩
theorem fd_X5_18_X5 : zFd RX5 18 5 2 8 RX5 RX5 TX5 := ⟨rfl, by decide, uw_X5, zm1 174 rfl rfl, fun _ _ _ x h => h⟩
theorem fd_X5_21_X5 : zFd RX5 21 5 3 8 RX5 RX5 TX5 := ⟨rfl, by decide, uw_X5, zm1 175 rfl rfl, fun _ _ _ x h => h⟩
theorem fd_X5_27_X5 : zFd RX5 27 5 4 8 RX5 RX5 TX5 := ⟨rfl, by decide, uw_X5, zm1 176 rfl rfl, fun _ _ _ x h => h⟩
theorem fp_X5_4 : zFp RX5 TX5 4 8 tyX5 := ⟨fpq_X5.1, fpq_X5.2, rfl⟩
theorem fd_X11_267_X5 : zFd RX11 267 5 4 8 RX5 RX5 TX5 := ⟨rfl, by decide, uw_X5, zm1 177 rfl rfl, fun _ _ _ x h => h⟩
theorem fd_X5_37_X5 : zFd RX5 37 5 5 8 RX5 RX5 TX5 := ⟨rfl, by decide, uw_X5, zm1 178 rfl rfl, fun _ _ _ x h => h⟩
theorem fp_X5_5 : zFp RX5 TX5 5 8 tyX5 := ⟨fpq_X5.1, fpq_X5.2, rfl⟩
theorem fd_X11_274_X5 : zFd RX11 274 5 5 8 RX5 RX5 TX5 := ⟨rfl, by decide, uw_X5, zm1 179 rfl rfl, fun _ _ _ x h => h⟩
theorem fd_X5_24_X5 : zFd RX5 24 5 6 8 RX5 RX5 TX5 := ⟨rfl, by decide, uw_X5, zm1 180 rfl rfl, fun _ _ _ x h => h⟩
theorem fd_X11_277_X5 : zFd RX11 277 5 6 8 RX5 RX5 TX5 := ⟨rfl, by decide, uw_X5, zm1 181 rfl rfl, fun _ _ _ x h => h⟩
theorem fd_X5_40_X5 : zFd RX5 40 5 7 8 RX5 RX5 TX5 := ⟨rfl, by decide, uw_X5, zm1 182 rfl rfl, fun _ _ _ x h => h⟩
theorem fp_X5_7 : zFp RX5 TX5 7 8 tyX5 := ⟨fpq_X5.1, fpq_X5.2, rfl⟩
theorem fd_X11_278_X5 : zFd RX11 278 5 7 8 RX5 RX5 TX5 := ⟨rfl, by decide, uw_X5, zm1 183 rfl rfl, fun _ _ _ x h => h⟩
theorem fd_X10_9_X10 : zFd RX10 9 10 0 18 RX10 RX10 TX10 := ⟨rfl, by decide, uw_X10, zm1 204 rfl rfl, fun _ _ _ x h => h⟩
theorem fd_X11_125_X10 : zFd RX11 125 10 0 18 RX10 RX10 TX10 := ⟨rfl, by decide, uw_X10, zm1 205 rfl rfl, fun _ _ _ x h => h⟩
theorem fd_X10_15_X10 : zFd RX10 15 10 1 18 RX10 RX10 TX10 := ⟨rfl, by decide, uw_X10, zm1 206 rfl rfl, fun _ _ _ x h => h⟩
theorem fd_X10_18_X10 : zFd RX10 18 10 2 18 RX10 RX10 TX10 := ⟨rfl, by decide, uw_X10, zm1 207 rfl rfl, fun _ _ _ x h => h⟩
theorem fd_X10_21_X10 : zFd RX10 21 10 3 18 RX10 RX10 TX10 := ⟨rfl, by decide, uw_X10, zm1 208 rfl rfl, fun _ _ _ x h => h⟩
theorem fd_X11_225_X10 : zFd RX11 225 10 3 18 RX10 RX10 TX10 := ⟨rfl, by decide, uw_X10, zm1 209 rfl rfl, fun _ _ _ x h => h⟩
theorem fd_X10_24_X10 : zFd RX10 24 10 4 18 RX10 RX10 TX10 := ⟨rfl, by decide, uw_X10, zm1 210 rfl rfl, fun _ _ _ x h => h⟩
theorem fd_X10_27_X10 : zFd RX10 27 10 5 18 RX10 RX10 TX10 := ⟨rfl, by decide, uw_X10, zm1 211 rfl rfl, fun _ _ _ x h => h⟩
theorem fd_X11_134_X10 : zFd RX11 134 10 5 18 RX10 RX10 TX10 := ⟨rfl, by decide, uw_X10, zm1 212 rfl rfl, fun _ _ _ x h => h⟩
theorem fd_X10_30_X10 : zFd RX10 30 10 6 18 RX10 RX10 TX10 := ⟨rfl, by decide, uw_X10, zm1 213 rfl rfl, fun _ _ _ x h => h⟩
theorem fd_X11_137_X10 : zFd RX11 137 10 6 18 RX10 RX10 TX10 := ⟨rfl, by decide, uw_X10, zm1 214 rfl rfl, fun _ _ _ x h => h⟩
theorem fd_X10_33_X10 : zFd RX10 33 10 7 18 RX10 RX10 TX10 := ⟨rfl, by decide, uw_X10, zm1 215 rfl rfl, fun _ _ _ x h => h⟩
theorem fd_X11_128_X10 : zFd RX11 128 10 7 18 RX10 RX10 TX10 := ⟨rfl, by decide, uw_X10, zm1 216 rfl rfl, fun _ _ _ x h => h⟩
theorem fd_X10_39_X10 : zFd RX10 39 10 8 18 RX10 RX10 TX10 := ⟨rfl, by decide, uw_X10, zm1 217 rfl rfl, fun _ _ _ x h => h⟩
theorem fd_X11_179_X10 : zFd RX11 179 10 8 18 RX10 RX10 TX10 := ⟨rfl, by decide, uw_X10, zm1 218 rfl rfl, fun _ _ _ x h => h⟩
theorem fd_X10_46_X10 : zFd RX10 46 10 9 18 RX10 RX10 TX10 := ⟨rfl, by decide, uw_X10, zm1 219 rfl rfl, fun _ _ _ x h => h⟩
theorem fd_X11_263_X10 : zFd RX11 263 10 9 18 RX10 RX10 TX10 := ⟨rfl, by decide, uw_X10, zm1 220 rfl rfl, fun _ _ _ x h => h⟩
theorem fd_X11_90_X10 : zFd RX11 90 10 10 18 RX10 RX10 TX10 := ⟨rfl, by decide, uw_X10, zm1 221 rfl rfl, fun _ _ _ x h => h⟩
theorem fp_X10_10 : zFp RX10 TX10 10 18 tyX10 := ⟨fpq_X10.1, fpq_X10.2, rfl⟩
theorem fd_X10_79_X10 : zFd RX10 79 10 10 18 RX10 RX10 TX10 := ⟨rfl, by decide, uw_X10, zm1 222 rfl rfl, fun _ _ _ x h => h⟩
theorem fd_X4_71_X10 : zFd RX4 71 10 10 18 RX10 RX10 TX10 := ⟨rfl, by decide, uw_X10, zm1 223 rfl rfl, fun _ _ _ x h => h⟩
theorem fd_X10_82_X10 : zFd RX10 82 10 11 18 RX10 RX10 TX10 := ⟨rfl, by decide, uw_X10, zm1 224 rfl rfl, fun _ _ _ x h => h⟩
theorem fp_X10_11 : zFp RX10 TX10 11 18 tyX10 := ⟨fpq_X10.1, fpq_X10.2, rfl⟩
theorem fd_X4_58_X10 : zFd RX4 58 10 11 18 RX10 RX10 TX10 := ⟨rfl, by decide, uw_X10, zm1 225 rfl rfl, fun _ _ _ x h => h⟩
theorem fd_X11_166_X10 : zFd RX11 166 10 11 18 RX10 RX10 TX10 := ⟨rfl, by decide, uw_X10, zm1 226 rfl rfl, fun _ _ _ x h => h⟩
theorem fd_X4_30_X10 : zFd RX4 30 10 12 18 RX10 RX10 TX10 := ⟨rfl, by decide, uw_X10, zm1 227 rfl rfl, fun _ _ _ x h => h⟩
theorem fp_X10_12 : zFp RX10 TX10 12 18 tyX10 := ⟨fpq_X10.1, fpq_X10.2, rfl⟩
theorem fd_X10_85_X10 : zFd RX10 85 10 12 18 RX10 RX10 TX10 := ⟨rfl, by decide, uw_X10, zm1 228 rfl rfl, fun _ _ _ x h => h⟩
theorem fd_X11_146_X10 : zFd RX11 146 10 12 18 RX10 RX10 TX10 := ⟨rfl, by decide, uw_X10, zm1 229 rfl rfl, fun _ _ _ x h => h⟩
theorem fd_X10_50_X10 : zFd RX10 50 10 13 18 RX10 RX10 TX10 := ⟨rfl, by decide, uw_X10, zm1 230 rfl rfl, fun _ _ _ x h => h⟩
theorem fp_X10_13 : zFp RX10 TX10 13 18 tyX10 := ⟨fpq_X10.1, fpq_X10.2, rfl⟩
theorem fd_X4_25_X10 : zFd RX4 25 10 13 18 RX10 RX10 TX10 := ⟨rfl, by decide, uw_X10, zm1 231 rfl rfl, fun _ _ _ x h => h⟩
theorem fd_X11_149_X10 : zFd RX11 149 10 13 18 RX10 RX10 TX10 := ⟨rfl, by decide, uw_X10, zm1 232 rfl rfl, fun _ _ _ x h => h⟩
theorem fd_X10_88_X10 : zFd RX10 88 10 14 18 RX10 RX10 TX10 := ⟨rfl, by decide, uw_X10, zm1 233 rfl rfl, fun _ _ _ x h => h⟩
theorem fp_X10_14 : zFp RX10 TX10 14 18 tyX10 := ⟨fpq_X10.1, fpq_X10.2, rfl⟩
theorem fd_X4_65_X10 : zFd RX4 65 10 14 18 RX10 RX10 TX10 := ⟨rfl, by decide, uw_X10, zm1 234 rfl rfl, fun _ _ _ x h => h⟩
theorem fd_X11_140_X10 : zFd RX11 140 10 14 18 RX10 RX10 TX10 := ⟨rfl, by decide, uw_X10, zm1 235 rfl rfl, fun _ _ _ x h => h⟩
theorem fd_X10_54_X10 : zFd RX10 54 10 15 18 RX10 RX10 TX10 := ⟨rfl, by decide, uw_X10, zm1 236 rfl rfl, fun _ _ _ x h => h⟩
theorem fp_X10_15 : zFp RX10 TX10 15 18 tyX10 := ⟨fpq_X10.1, fpq_X10.2, rfl⟩
theorem fd_X4_68_X10 : zFd RX4 68 10 15 18 RX10 RX10 TX10 := ⟨rfl, by decide, uw_X10, zm1 237 rfl rfl, fun _ _ _ x h => h⟩
theorem fd_X11_143_X10 : zFd RX11 143 10 15 18 RX10 RX10 TX10 := ⟨rfl, by decide, uw_X10, zm1 238 rfl rfl, fun _ _ _ x h => h⟩
theorem fd_X10_91_X10 : zFd RX10 91 10 16 18 RX10 RX10 TX10 := ⟨rfl, by decide, uw_X10, zm1 239 rfl rfl, fun _ _ _ x h => h⟩
theorem fp_X10_16 : zFp RX10 TX10 16 18 tyX10 := ⟨fpq_X10.1, fpq_X10.2, rfl⟩
theorem fd_X11_155_X10 : zFd RX11 155 10 16 18 RX10 RX10 TX10 := ⟨rfl, by decide, uw_X10, zm2 0 rfl rfl, fun _ _ _ x h => h⟩
theorem fd_X10_57_X10 : zFd RX10 57 10 17 18 RX10 RX10 TX10 := ⟨rfl, by decide, uw_X10, zm2 1 rfl rfl, fun _ _ _ x h => h⟩
theorem fp_X10_17 : zFp RX10 TX10 17 18 tyX10 := ⟨fpq_X10.1, fpq_X10.2, rfl⟩
theorem fd_X11_281_X10 : zFd RX11 281 10 17 18 RX10 RX10 TX10 := ⟨rfl, by decide, uw_X10, zm2 2 rfl rfl, fun _ _ _ x h => h⟩
theorem fd_X6_11_X6 : zFd RX6 11 6 0 7 RX6 RX6 TX6 := ⟨rfl, by decide, uw_X6, zm2 48 rfl rfl, fun _ _ _ x h => h⟩
theorem fd_X6_28_X6 : zFd RX6 28 6 1 7 RX6 RX6 TX6 := ⟨rfl, by decide, uw_X6, zm2 49 rfl rfl, fun _ _ _ x h => h⟩
theorem fp_X6_1 : zFp RX6 TX6 1 7 tyX6 := ⟨fpq_X6.1, fpq_X6.2, rfl⟩
theorem fd_X11_176_X6 : zFd RX11 176 6 1 7 RX6 RX6 TX6 := ⟨rfl, by decide, uw_X6, zm2 50 rfl rfl, fun _ _ _ x h => h⟩
theorem fd_X6_15_X6 : zFd RX6 15 6 2 7 RX6 RX6 TX6 := ⟨rfl, by decide, uw_X6, zm2 51 rfl rfl, fun _ _ _ x h => h⟩
theorem fd_X6_18_X6 : zFd RX6 18 6 3 7 RX6 RX6 TX6 := ⟨rfl, by decide, uw_X6, zm2 52 rfl rfl, fun _ _ _ x h => h⟩
theorem fd_X6_24_X6 : zFd RX6 24 6 4 7 RX6 RX6 TX6 := ⟨rfl, by decide, uw_X6, zm2 53 rfl rfl, fun _ _ _ x h => h⟩
theorem fd_X6_37_X6 : zFd RX6 37 6 5 7 RX6 RX6 TX6 := ⟨rfl, by decide, uw_X6, zm2 54 rfl rfl, fun _ _ _ x h => h⟩
theorem fp_X6_5 : zFp RX6 TX6 5 7 tyX6 := ⟨fpq_X6.1, fpq_X6.2, rfl⟩
theorem fd_X6_40_X6 : zFd RX6 40 6 6 7 RX6 RX6 TX6 := ⟨rfl, by decide, uw_X6, zm2 55 rfl rfl, fun _ _ _ x h => h⟩
theorem fp_X6_6 : zFp RX6 TX6 6 7 tyX6 := ⟨fpq_X6.1, fpq_X6.2, rfl⟩
theorem fd_X4_18_X4 : zFd RX4 18 4 0 9 RX4 RX4 TX4 := ⟨rfl, by decide, uw_X4, zm2 77 rfl rfl, fun _ _ _ x h => h⟩
theorem fp_X4_0 : zFp RX4 TX4 0 9 tyX4 := ⟨fpq_X4.1, fpq_X4.2, rfl⟩
theorem fd_X11_235_X4 : zFd RX11 235 4 0 9 RX4 RX4 TX4 := ⟨rfl, by decide, uw_X4, zm2 78 rfl rfl, fun _ _ _ x h => h⟩
theorem fd_X4_22_X4 : zFd RX4 22 4 1 9 RX4 RX4 TX4 := ⟨rfl, by decide, uw_X4, zm2 79 rfl rfl, fun _ _ _ x h => h⟩
theorem fp_X4_1 : zFp RX4 TX4 1 9 tyX4 := ⟨fpq_X4.1, fpq_X4.2, rfl⟩
theorem fd_X11_244_X4 : zFd RX11 244 4 1 9 RX4 RX4 TX4 := ⟨rfl, by decide, uw_X4, zm2 80 rfl rfl, fun _ _ _ x h => h⟩
theorem fd_X4_42_X4 : zFd RX4 42 4 2 9 RX4 RX4 TX4 := ⟨rfl, by decide, uw_X4, zm2 81 rfl rfl, fun _ _ _ x h => h⟩
theorem fp_X4_2 : zFp RX4 TX4 2 9 tyX4 := ⟨fpq_X4.1, fpq_X4.2, rfl⟩
theorem fd_X11_238_X4 : zFd RX11 238 4 2 9 RX4 RX4 TX4 := ⟨rfl, by decide, uw_X4, zm2 82 rfl rfl, fun _ _ _ x h => h⟩
theorem fd_X4_45_X4 : zFd RX4 45 4 3 9 RX4 RX4 TX4 := ⟨rfl, by decide, uw_X4, zm2 83 rfl rfl, fun _ _ _ x h => h⟩
theorem fp_X4_3 : zFp RX4 TX4 3 9 tyX4 := ⟨fpq_X4.1, fpq_X4.2, rfl⟩
theorem fd_X11_247_X4 : zFd RX11 247 4 3 9 RX4 RX4 TX4 := ⟨rfl, by decide, uw_X4, zm2 84 rfl rfl, fun _ _ _ x h => h⟩
theorem fd_X4_48_X4 : zFd RX4 48 4 4 9 RX4 RX4 TX4 := ⟨rfl, by decide, uw_X4, zm2 85 rfl rfl, fun _ _ _ x h => h⟩
theorem fp_X4_4 : zFp RX4 TX4 4 9 tyX4 := ⟨fpq_X4.1, fpq_X4.2, rfl⟩
theorem fd_X11_250_X4 : zFd RX11 250 4 4 9 RX4 RX4 TX4 := ⟨rfl, by decide, uw_X4, zm2 86 rfl rfl, fun _ _ _ x h => h⟩
theorem fd_X4_99_X4 : zFd RX4 99 4 5 9 RX4 RX4 TX4 := ⟨rfl, by decide, uw_X4, zm2 87 rfl rfl, fun _ _ _ x h => h⟩
theorem fp_X4_5 : zFp RX4 TX4 5 9 tyX4 := ⟨fpq_X4.1, fpq_X4.2, rfl⟩
theorem fd_X11_260_X4 : zFd RX11 260 4 5 9 RX4 RX4 TX4 := ⟨rfl, by decide, uw_X4, zm2 88 rfl rfl, fun _ _ _ x h => h⟩
theorem fd_X4_9_X4 : zFd RX4 9 4 6 9 RX4 RX4 TX4 := ⟨rfl, by decide, uw_X4, zm2 89 rfl rfl, fun _ _ _ x h => h⟩
theorem fd_X11_241_X4 : zFd RX11 241 4 6 9 RX4 RX4 TX4 := ⟨rfl, by decide, uw_X4, zm2 90 rfl rfl, fun _ _ _ x h => h⟩
theorem fd_X4_15_X4 : zFd RX4 15 4 7 9 RX4 RX4 TX4 := ⟨rfl, by decide, uw_X4, zm2 91 rfl rfl, fun _ _ _ x h => h⟩
theorem fd_X4_51_X4 : zFd RX4 51 4 8 9 RX4 RX4 TX4 := ⟨rfl, by decide, uw_X4, zm2 92 rfl rfl, fun _ _ _ x h => h⟩
theorem fp_X4_8 : zFp RX4 TX4 8 9 tyX4 := ⟨fpq_X4.1, fpq_X4.2, rfl⟩
theorem fd_X11_25_X11 : zFd RX11 25 11 0 16 RX11 RX11 TX11 := ⟨rfl, by decide, uw_X11, zm2 114 rfl rfl, fun _ _ _ x h => h⟩
theorem fd_X11_34_X11 : zFd RX11 34 11 1 16 RX11 RX11 TX11 := ⟨rfl, by decide, uw_X11, zm2 115 rfl rfl, fun _ _ _ x h => h⟩
theorem fd_X11_38_X11 : zFd RX11 38 11 2 16 RX11 RX11 TX11 := ⟨rfl, by decide, uw_X11, zm2 116 rfl rfl, fun _ _ _ x h => h⟩
theorem fd_X11_41_X11 : zFd RX11 41 11 3 16 RX11 RX11 TX11 := ⟨rfl, by decide, uw_X11, zm2 117 rfl rfl, fun _ _ _ x h => h⟩
theorem fd_X11_364_X11 : zFd RX11 364 11 4 16 RX11 RX11 TX11 := ⟨rfl, by decide, uw_X11, zm2 118 rfl rfl, fun _ _ _ x h => h⟩
theorem fp_X11_4 : zFp RX11 TX11 4 16 tyX11 := ⟨fpq_X11.1, fpq_X11.2, rfl⟩
theorem fd_X11_47_X11 : zFd RX11 47 11 5 16 RX11 RX11 TX11 := ⟨rfl, by decide, uw_X11, zm2 119 rfl rfl, fun _ _ _ x h => h⟩
theorem fd_X11_54_X11 : zFd RX11 54 11 6 16 RX11 RX11 TX11 := ⟨rfl, by decide, uw_X11, zm2 120 rfl rfl, fun _ _ _ x h => h⟩
theorem fd_X11_58_X11 : zFd RX11 58 11 7 16 RX11 RX11 TX11 := ⟨rfl, by decide, uw_X11, zm2 121 rfl rfl, fun _ _ _ x h => h⟩
theorem fd_X11_287_X11 : zFd RX11 287 11 8 16 RX11 RX11 TX11 := ⟨rfl, by decide, uw_X11, zm2 122 rfl rfl, fun _ _ _ x h => h⟩
theorem fp_X11_8 : zFp RX11 TX11 8 16 tyX11 := ⟨fpq_X11.1, fpq_X11.2, rfl⟩
theorem fd_X11_64_X11 : zFd RX11 64 11 9 16 RX11 RX11 TX11 := ⟨rfl, by decide, uw_X11, zm2 123 rfl rfl, fun _ _ _ x h => h⟩
theorem fd_X11_67_X11 : zFd RX11 67 11 10 16 RX11 RX11 TX11 := ⟨rfl, by decide, uw_X11, zm2 124 rfl rfl, fun _ _ _ x h => h⟩
theorem fd_X11_70_X11 : zFd RX11 70 11 11 16 RX11 RX11 TX11 := ⟨rfl, by decide, uw_X11, zm2 125 rfl rfl, fun _ _ _ x h => h⟩
theorem fd_X11_73_X11 : zFd RX11 73 11 12 16 RX11 RX11 TX11 := ⟨rfl, by decide, uw_X11, zm2 126 rfl rfl, fun _ _ _ x h => h⟩
theorem fd_X11_76_X11 : zFd RX11 76 11 13 16 RX11 RX11 TX11 := ⟨rfl, by decide, uw_X11, zm2 127 rfl rfl, fun _ _ _ x h => h⟩
theorem fd_X11_79_X11 : zFd RX11 79 11 14 16 RX11 RX11 TX11 := ⟨rfl, by decide, uw_X11, zm2 128 rfl rfl, fun _ _ _ x h => h⟩
theorem fd_X11_323_X11 : zFd RX11 323 11 15 16 RX11 RX11 TX11 := ⟨rfl, by decide, uw_X11, zm2 129 rfl rfl, fun _ _ _ x h => h⟩
theorem fp_X11_15 : zFp RX11 TX11 15 16 tyX11 := ⟨fpq_X11.1, fpq_X11.2, rfl⟩
theorem fd_X12_9_X12 : zFd RX12 9 12 0 39 RX12 RX12 TX12 := ⟨rfl, by decide, uw_X12, zm5 157 rfl rfl, fun _ _ _ x h => h⟩
theorem fd_X12_13_X12 : zFd RX12 13 12 1 39 RX12 RX12 TX12 := ⟨rfl, by decide, uw_X12, zm5 158 rfl rfl, fun _ _ _ x h => h⟩
theorem fd_X12_16_X12 : zFd RX12 16 12 2 39 RX12 RX12 TX12 := ⟨rfl, by decide, uw_X12, zm5 159 rfl rfl, fun _ _ _ x h => h⟩
theorem fd_X12_372_X12 : zFd RX12 372 12 3 39 RX12 RX12 TX12 := ⟨rfl, by decide, uw_X12, zm5 160 rfl rfl, fun _ _ _ x h => h⟩
theorem fp_X12_3 : zFp RX12 TX12 3 39 tyX12 := ⟨fpq_X12.1, fpq_X12.2, rfl⟩
theorem fd_X12_19_X12 : zFd RX12 19 12 4 39 RX12 RX12 TX12 := ⟨rfl, by decide, uw_X12, zm5 161 rfl rfl, fun _ _ _ x h => h⟩
theorem fd_X12_22_X12 : zFd RX12 22 12 5 39 RX12 RX12 TX12 := ⟨rfl, by decide, uw_X12, zm5 162 rfl rfl, fun _ _ _ x h => h⟩
theorem fd_X12_113_X12 : zFd RX12 113 12 6 39 RX12 RX12 TX12 := ⟨rfl, by decide, uw_X12, zm5 163 rfl rfl, fun _ _ _ x h => h⟩
theorem fp_X12_6 : zFp RX12 TX12 6 39 tyX12 := ⟨fpq_X12.1, fpq_X12.2, rfl⟩
theorem fd_X12_25_X12 : zFd RX12 25 12 7 39 RX12 RX12 TX12 := ⟨rfl, by decide, uw_X12, zm5 164 rfl rfl, fun _ _ _ x h => h⟩
theorem fd_X12_117_X12 : zFd RX12 117 12 8 39 RX12 RX12 TX12 := ⟨rfl, by decide, uw_X12, zm5 165 rfl rfl, fun _ _ _ x h => h⟩
theorem fp_X12_8 : zFp RX12 TX12 8 39 tyX12 := ⟨fpq_X12.1, fpq_X12.2, rfl⟩
theorem fd_X12_120_X12 : zFd RX12 120 12 9 39 RX12 RX12 TX12 := ⟨rfl, by decide, uw_X12, zm5 166 rfl rfl, fun _ _ _ x h => h⟩
theorem fp_X12_9 : zFp RX12 TX12 9 39 tyX12 := ⟨fpq_X12.1, fpq_X12.2, rfl⟩
theorem fd_X12_126_X12 : zFd RX12 126 12 10 39 RX12 RX12 TX12 := ⟨rfl, by decide, uw_X12, zm5 167 rfl rfl, fun _ _ _ x h => h⟩
theorem fp_X12_10 : zFp RX12 TX12 10 39 tyX12 := ⟨fpq_X12.1, fpq_X12.2, rfl⟩
theorem fd_X12_133_X12 : zFd RX12 133 12 11 39 RX12 RX12 TX12 := ⟨rfl, by decide, uw_X12, zm5 168 rfl rfl, fun _ _ _ x h => h⟩
theorem fp_X12_11 : zFp RX12 TX12 11 39 tyX12 := ⟨fpq_X12.1, fpq_X12.2, rfl⟩
theorem fd_X12_156_X12 : zFd RX12 156 12 12 39 RX12 RX12 TX12 := ⟨rfl, by decide, uw_X12, zm5 169 rfl rfl, fun _ _ _ x h => h⟩
theorem fp_X12_12 : zFp RX12 TX12 12 39 tyX12 := ⟨fpq_X12.1, fpq_X12.2, rfl⟩
theorem fd_X12_145_X12 : zFd RX12 145 12 13 39 RX12 RX12 TX12 := ⟨rfl, by decide, uw_X12, zm5 170 rfl rfl, fun _ _ _ x h => h⟩
theorem fp_X12_13 : zFp RX12 TX12 13 39 tyX12 := ⟨fpq_X12.1, fpq_X12.2, rfl⟩
theorem fd_X12_29_X12 : zFd RX12 29 12 14 39 RX12 RX12 TX12 := ⟨rfl, by decide, uw_X12, zm5 171 rfl rfl, fun _ _ _ x h => h⟩
theorem fd_X12_32_X12 : zFd RX12 32 12 15 39 RX12 RX12 TX12 := ⟨rfl, by decide, uw_X12, zm5 172 rfl rfl, fun _ _ _ x h => h⟩
theorem fd_X12_253_X12 : zFd RX12 253 12 16 39 RX12 RX12 TX12 := ⟨rfl, by decide, uw_X12, zm5 173 rfl rfl, fun _ _ _ x h => h⟩
theorem fp_X12_16 : zFp RX12 TX12 16 39 tyX12 := ⟨fpq_X12.1, fpq_X12.2, rfl⟩
theorem fd_X12_256_X12 : zFd RX12 256 12 17 39 RX12 RX12 TX12 := ⟨rfl, by decide, uw_X12, zm5 174 rfl rfl, fun _ _ _ x h => h⟩
theorem fp_X12_17 : zFp RX12 TX12 17 39 tyX12 := ⟨fpq_X12.1, fpq_X12.2, rfl⟩
theorem fd_X12_35_X12 : zFd RX12 35 12 18 39 RX12 RX12 TX12 := ⟨rfl, by decide, uw_X12, zm5 175 rfl rfl, fun _ _ _ x h => h⟩
theorem fd_X12_38_X12 : zFd RX12 38 12 19 39 RX12 RX12 TX12 := ⟨rfl, by decide, uw_X12, zm5 176 rfl rfl, fun _ _ _ x h => h⟩
theorem fd_X12_41_X12 : zFd RX12 41 12 20 39 RX12 RX12 TX12 := ⟨rfl, by decide, uw_X12, zm5 177 rfl rfl, fun _ _ _ x h => h⟩
theorem fd_X12_263_X12 : zFd RX12 263 12 21 39 RX12 RX12 TX12 := ⟨rfl, by decide, uw_X12, zm5 178 rfl rfl, fun _ _ _ x h => h⟩
theorem fp_X12_21 : zFp RX12 TX12 21 39 tyX12 := ⟨fpq_X12.1, fpq_X12.2, rfl⟩
theorem fd_X12_266_X12 : zFd RX12 266 12 22 39 RX12 RX12 TX12 := ⟨rfl, by decide, uw_X12, zm5 179 rfl rfl, fun _ _ _ x h => h⟩
theorem fp_X12_22 : zFp RX12 TX12 22 39 tyX12 := ⟨fpq_X12.1, fpq_X12.2, rfl⟩
theorem fd_X12_269_X12 : zFd RX12 269 12 23 39 RX12 RX12 TX12 := ⟨rfl, by decide, uw_X12, zm5 180 rfl rfl, fun _ _ _ x h => h⟩
theorem fp_X12_23 : zFp RX12 TX12 23 39 tyX12 := ⟨fpq_X12.1, fpq_X12.2, rfl⟩
theorem fd_X12_272_X12 : zFd RX12 272 12 24 39 RX12 RX12 TX12 := ⟨rfl, by decide, uw_X12, zm5 181 rfl rfl, fun _ _ _ x h => h⟩
theorem fp_X12_24 : zFp RX12 TX12 24 39 tyX12 := ⟨fpq_X12.1, fpq_X12.2, rfl⟩
theorem fd_X12_44_X12 : zFd RX12 44 12 25 39 RX12 RX12 TX12 := ⟨rfl, by decide, uw_X12, zm5 182 rfl rfl, fun _ _ _ x h => h⟩
theorem fd_X12_47_X12 : zFd RX12 47 12 26 39 RX12 RX12 TX12 := ⟨rfl, by decide, uw_X12, zm5 183 rfl rfl, fun _ _ _ x h => h⟩
theorem fd_X12_304_X12 : zFd RX12 304 12 27 39 RX12 RX12 TX12 := ⟨rfl, by decide, uw_X12, zm5 184 rfl rfl, fun _ _ _ x h => h⟩
theorem fp_X12_27 : zFp RX12 TX12 27 39 tyX12 := ⟨fpq_X12.1, fpq_X12.2, rfl⟩
theorem fd_X12_50_X12 : zFd RX12 50 12 28 39 RX12 RX12 TX12 := ⟨rfl, by decide, uw_X12, zm5 185 rfl rfl, fun _ _ _ x h => h⟩
theorem fd_X12_320_X12 : zFd RX12 320 12 29 39 RX12 RX12 TX12 := ⟨rfl, by decide, uw_X12, zm5 186 rfl rfl, fun _ _ _ x h => h⟩
theorem fp_X12_29 : zFp RX12 TX12 29 39 tyX12 := ⟨fpq_X12.1, fpq_X12.2, rfl⟩
theorem fd_X12_53_X12 : zFd RX12 53 12 30 39 RX12 RX12 TX12 := ⟨rfl, by decide, uw_X12, zm5 187 rfl rfl, fun _ _ _ x h => h⟩
theorem fd_X12_56_X12 : zFd RX12 56 12 31 39 RX12 RX12 TX12 := ⟨rfl, by decide, uw_X12, zm5 188 rfl rfl, fun _ _ _ x h => h⟩
theorem fd_X12_59_X12 : zFd RX12 59 12 32 39 RX12 RX12 TX12 := ⟨rfl, by decide, uw_X12, zm5 189 rfl rfl, fun _ _ _ x h => h⟩
theorem fd_X12_62_X12 : zFd RX12 62 12 33 39 RX12 RX12 TX12 := ⟨rfl, by decide, uw_X12, zm5 190 rfl rfl, fun _ _ _ x h => h⟩
theorem fd_X12_65_X12 : zFd RX12 65 12 34 39 RX12 RX12 TX12 := ⟨rfl, by decide, uw_X12, zm5 191 rfl rfl, fun _ _ _ x h => h⟩
theorem fd_X12_68_X12 : zFd RX12 68 12 35 39 RX12 RX12 TX12 := ⟨rfl, by decide, uw_X12, zm5 192 rfl rfl, fun _ _ _ x h => h⟩
theorem fd_X12_344_X12 : zFd RX12 344 12 36 39 RX12 RX12 TX12 := ⟨rfl, by decide, uw_X12, zm5 193 rfl rfl, fun _ _ _ x h => h⟩
theorem fp_X12_36 : zFp RX12 TX12 36 39 tyX12 := ⟨fpq_X12.1, fpq_X12.2, rfl⟩
theorem fd_X12_353_X12 : zFd RX12 353 12 37 39 RX12 RX12 TX12 := ⟨rfl, by decide, uw_X12, zm5 194 rfl rfl, fun _ _ _ x h => h⟩
theorem fp_X12_37 : zFp RX12 TX12 37 39 tyX12 := ⟨fpq_X12.1, fpq_X12.2, rfl⟩
theorem fd_X12_362_X12 : zFd RX12 362 12 38 39 RX12 RX12 TX12 := ⟨rfl, by decide, uw_X12, zm5 195 rfl rfl, fun _ _ _ x h => h⟩
theorem fp_X12_38 : zFp RX12 TX12 38 39 tyX12 := ⟨fpq_X12.1, fpq_X12.2, rfl⟩
theorem lk_X10_60 : zLkS RX10 60 mJ7_fill_53178 := ⟨zm1 201 rfl rfl, zm1 202 rfl rfl, zm1 11 rfl rfl⟩
theorem lk_X11_82 : zLkS RX11 82 mX11_isKind := ⟨zm2 168 rfl rfl, zm2 169 rfl rfl, zm1 1 rfl rfl⟩
theorem lk_X11_86 : zLkS RX11 86 mX11_isFrom0To := ⟨zm2 171 rfl rfl, zm2 172 rfl rfl, zm1 1 rfl rfl⟩
theorem lk_X11_94 : zLkV RX11 94 mX10_add := ⟨zm2 174 rfl rfl, zm2 175 rfl rfl, zm2 176 rfl rfl, zm1 8 rfl rfl⟩
theorem lk_X11_98 : zLkV RX11 98 mX10_has := ⟨zm2 182 rfl rfl, zm2 183 rfl rfl, zm2 184 rfl rfl, zm1 8 rfl rfl⟩
theorem lk_X11_101 : zLkV RX11 101 mX10_drawn := ⟨zm2 186 rfl rfl, zm2 187 rfl rfl, zm2 188 rfl rfl, zm1 8 rfl rfl⟩
theorem lk_X10_102 : zLkN RX10 102 mX11_draws "ThirteenthBun" := ⟨List.mem_of_getElem? (i := 0) rfl, zm2 191 rfl rfl, zm1 1 rfl rfl⟩
theorem lk_X11_105 : zLkV RX11 105 mX10_asked := ⟨zm2 197 rfl rfl, zm2 198 rfl rfl, zm2 199 rfl rfl, zm1 8 rfl rfl⟩
theorem lk_X10_98 : zLkN RX10 98 mX11_asks "ThirteenthBun" := ⟨List.mem_of_getElem? (i := 1) rfl, zm2 202 rfl rfl, zm1 1 rfl rfl⟩
theorem lk_X11_108 : zLkV RX11 108 mX10_will := ⟨zm2 204 rfl rfl, zm2 205 rfl rfl, zm2 206 rfl rfl, zm1 8 rfl rfl⟩
theorem lk_X10_116 : zLkV RX10 116 mX10_drawn := ⟨zm2 208 rfl rfl, zm2 187 rfl rfl, zm2 188 rfl rfl, zm1 8 rfl rfl⟩
theorem lk_X10_119 : zLkV RX10 119 mX7_willOf := ⟨zm2 209 rfl rfl, zm2 210 rfl rfl, zm2 211 rfl rfl, zm1 9 rfl rfl⟩
theorem lk_X7_46 : zLkN RX7 46 mX11_isUnder "ThirteenthBun" := ⟨List.mem_of_getElem? (i := 2) rfl, zm2 214 rfl rfl, zm1 1 rfl rfl⟩
theorem lk_X7_50 : zLkV RX7 50 mX7_holds := ⟨zm2 216 rfl rfl, zm2 218 rfl rfl, zmp 0 rfl, zm1 9 rfl rfl⟩
theorem lk_X7_53 : zLkV RX7 53 mX7_side := ⟨zm2 220 rfl rfl, zm2 222 rfl rfl, zmp 1 rfl, zm1 9 rfl rfl⟩
theorem lk_X7_57 : zLkS RX7 57 mX7_isTrue := ⟨zm2 224 rfl rfl, zm2 225 rfl rfl, zm1 9 rfl rfl⟩
theorem lk_X11_111 : zLkV RX11 111 mX10_isServed := ⟨zm2 227 rfl rfl, zm2 228 rfl rfl, zm2 229 rfl rfl, zm1 8 rfl rfl⟩
theorem lk_X10_112 : zLkV RX10 112 mX10_asked := ⟨zm2 231 rfl rfl, zm2 198 rfl rfl, zm2 199 rfl rfl, zm1 8 rfl rfl⟩
theorem lk_X11_114 : zLkS RX11 114 mX11_mostOf := ⟨zm2 232 rfl rfl, zm2 233 rfl rfl, zm1 1 rfl rfl⟩
theorem lk_X11_117 : zLkV RX11 117 mX10_get := ⟨zm2 235 rfl rfl, zm2 236 rfl rfl, zm2 237 rfl rfl, zm1 8 rfl rfl⟩
theorem lk_X10_94 : zLkV RX10 94 mX10_isCalled := ⟨zm2 239 rfl rfl, zm3 0 rfl rfl, zm3 1 rfl rfl, zm1 8 rfl rfl⟩
theorem lk_X11_121 : zLkV RX11 121 mX10_put := ⟨zm3 7 rfl rfl, zm3 8 rfl rfl, zm3 9 rfl rfl, zm1 8 rfl rfl⟩
theorem lk_X11_131 : zLkV RX11 131 mX11_laneOf := ⟨zm3 23 rfl rfl, zm3 24 rfl rfl, zm3 25 rfl rfl, zm1 1 rfl rfl⟩
theorem lk_X11_152 : zLkV RX11 152 mX10_startAnew := ⟨zm3 40 rfl rfl, zm3 41 rfl rfl, zm3 42 rfl rfl, zm1 8 rfl rfl⟩
theorem lk_X11_158 : zLkV RX11 158 mX10_isOver := ⟨zm3 48 rfl rfl, zm3 49 rfl rfl, zm3 50 rfl rfl, zm1 8 rfl rfl⟩
theorem lk_X11_162 : zLkV RX11 162 mX10_withBuns := ⟨zm3 52 rfl rfl, zm3 53 rfl rfl, zm3 54 rfl rfl, zm1 8 rfl rfl⟩
theorem lk_X11_169 : zLkV RX11 169 mX10_duskNow := ⟨zm3 56 rfl rfl, zm3 57 rfl rfl, zm3 58 rfl rfl, zm1 8 rfl rfl⟩
theorem lk_X11_172 : zLkV RX11 172 mX6_takes := ⟨zm3 64 rfl rfl, zm3 65 rfl rfl, zm3 66 rfl rfl, zm1 12 rfl rfl⟩
theorem lk_X11_183 : zLkV RX11 183 mX6_tell := ⟨zm3 73 rfl rfl, zm3 74 rfl rfl, zm3 75 rfl rfl, zm1 12 rfl rfl⟩
theorem lk_X6_34 : zLkV RX6 34 mX6_divide := ⟨zm3 77 rfl rfl, zm3 79 rfl rfl, zmp 2 rfl, zm1 12 rfl rfl⟩
theorem lk_X6_58 : zLkV RX6 58 mX6_sortAt := ⟨zm3 81 rfl rfl, zm3 83 rfl rfl, zmp 3 rfl, zm1 12 rfl rfl⟩
theorem lk_X6_62 : zLkV RX6 62 mX6_wordAt := ⟨zm3 85 rfl rfl, zm3 87 rfl rfl, zmp 4 rfl, zm1 12 rfl rfl⟩
theorem lk_X6_65 : zLkV RX6 65 mX6_numberAt := ⟨zm3 138 rfl rfl, zm3 140 rfl rfl, zmp 5 rfl, zm1 12 rfl rfl⟩
theorem lk_X6_47 : zLkV RX6 47 mX6_isNext := ⟨zm3 142 rfl rfl, zm3 144 rfl rfl, zmp 6 rfl, zm1 12 rfl rfl⟩
theorem lk_X6_51 : zLkV RX6 51 mX6_readRule := ⟨zm3 146 rfl rfl, zm3 148 rfl rfl, zmp 7 rfl, zm1 12 rfl rfl⟩
theorem lk_X6_80 : zLkV RX6 80 mX6_pass := ⟨zm3 150 rfl rfl, zm3 152 rfl rfl, zmp 8 rfl, zm1 12 rfl rfl⟩
theorem lk_X6_84 : zLkV RX6 84 mX6_readAny := ⟨zm3 154 rfl rfl, zm3 156 rfl rfl, zmp 9 rfl, zm1 12 rfl rfl⟩
theorem lk_X6_92 : zLkV RX6 92 mX6_readAll := ⟨zm3 158 rfl rfl, zm3 160 rfl rfl, zmp 10 rfl, zm1 12 rfl rfl⟩
theorem lk_X6_99 : zLkV RX6 99 mX6_readOne := ⟨zm3 162 rfl rfl, zm3 164 rfl rfl, zmp 11 rfl, zm1 12 rfl rfl⟩
theorem lk_X6_102 : zLkV RX6 102 mX6_readSide := ⟨zm3 166 rfl rfl, zm3 168 rfl rfl, zmp 12 rfl, zm1 12 rfl rfl⟩
theorem lk_X6_95 : zLkV RX6 95 mX7_addStep := ⟨zm3 170 rfl rfl, zm3 171 rfl rfl, zm3 172 rfl rfl, zm1 9 rfl rfl⟩
theorem lk_X6_88 : zLkV RX6 88 mX7_addRule := ⟨zm3 174 rfl rfl, zm3 175 rfl rfl, zm3 176 rfl rfl, zm1 9 rfl rfl⟩
theorem lk_X6_54 : zLkV RX6 54 mX7_become := ⟨zm3 178 rfl rfl, zm3 179 rfl rfl, zm3 180 rfl rfl, zm1 9 rfl rfl⟩
theorem lk_X11_187 : zLkV RX11 187 mX10_goBy := ⟨zm3 190 rfl rfl, zm3 191 rfl rfl, zm3 192 rfl rfl, zm1 8 rfl rfl⟩
theorem lk_X10_123 : zLkV RX10 123 mX10_duskNow := ⟨zm3 194 rfl rfl, zm3 57 rfl rfl, zm3 58 rfl rfl, zm1 8 rfl rfl⟩
theorem lk_X10_127 : zLkN RX10 127 mX11_rainBehind "ThirteenthBun" := ⟨List.mem_of_getElem? (i := 3) rfl, zm3 196 rfl rfl, zm1 1 rfl rfl⟩
theorem lk_X10_130 : zLkV RX10 130 mX10_toldInRest := ⟨zm3 201 rfl rfl, zm3 203 rfl rfl, zmp 13 rfl, zm1 8 rfl rfl⟩
theorem lk_X10_152 : zLkV RX10 152 mX10_isServed := ⟨zm3 205 rfl rfl, zm2 228 rfl rfl, zm2 229 rfl rfl, zm1 8 rfl rfl⟩
theorem lk_X10_133 : zLkV RX10 133 mX10_has := ⟨zm3 206 rfl rfl, zm2 183 rfl rfl, zm2 184 rfl rfl, zm1 8 rfl rfl⟩
theorem lk_X10_136 : zLkV RX10 136 mX10_will := ⟨zm3 207 rfl rfl, zm2 205 rfl rfl, zm2 206 rfl rfl, zm1 8 rfl rfl⟩
theorem lk_X10_139 : zLkV RX10 139 mX10_worthOf := ⟨zm3 208 rfl rfl, zm3 210 rfl rfl, zmp 14 rfl, zm1 8 rfl rfl⟩
theorem lk_X10_142 : zLkN RX10 142 mX11_trayBehind "ThirteenthBun" := ⟨List.mem_of_getElem? (i := 4) rfl, zm3 214 rfl rfl, zm1 1 rfl rfl⟩
theorem lk_X11_190 : zLkV RX11 190 mX11_freshTrial := ⟨zm3 220 rfl rfl, zm3 222 rfl rfl, zmp 15 rfl, zm1 1 rfl rfl⟩
theorem lk_X11_361 : zLkV RX11 361 mX10_become := ⟨zm3 224 rfl rfl, zm3 225 rfl rfl, zm3 226 rfl rfl, zm1 8 rfl rfl⟩
theorem lk_X10_72 : zLkV RX10 72 mX7_become := ⟨zm3 229 rfl rfl, zm3 179 rfl rfl, zm3 180 rfl rfl, zm1 9 rfl rfl⟩
theorem lk_X10_76 : zLkV RX10 76 mX5_become := ⟨zm3 230 rfl rfl, zm3 231 rfl rfl, zm3 232 rfl rfl, zm1 10 rfl rfl⟩
theorem lk_X11_194 : zLkV RX11 194 mX10_goRest := ⟨zm3 235 rfl rfl, zm3 236 rfl rfl, zm3 237 rfl rfl, zm1 8 rfl rfl⟩
theorem lk_X10_145 : zLkV RX10 145 mX10_isOver := ⟨zm3 239 rfl rfl, zm3 49 rfl rfl, zm3 50 rfl rfl, zm1 8 rfl rfl⟩
theorem lk_X10_149 : zLkV RX10 149 mX10_goBy := ⟨zm4 0 rfl rfl, zm3 191 rfl rfl, zm3 192 rfl rfl, zm1 8 rfl rfl⟩
theorem lk_X11_197 : zLkV RX11 197 mX10_isCalled := ⟨zm4 5 rfl rfl, zm3 0 rfl rfl, zm3 1 rfl rfl, zm1 8 rfl rfl⟩
theorem lk_X11_200 : zLkV RX11 200 mX11_worthMost := ⟨zm4 10 rfl rfl, zm4 12 rfl rfl, zmp 16 rfl, zm1 1 rfl rfl⟩
theorem lk_X11_203 : zLkV RX11 203 mX11_countKin := ⟨zm4 30 rfl rfl, zm4 32 rfl rfl, zmp 17 rfl, zm1 1 rfl rfl⟩
theorem lk_X11_206 : zLkV RX11 206 mX10_kinOf := ⟨zm4 34 rfl rfl, zm4 35 rfl rfl, zm4 36 rfl rfl, zm1 8 rfl rfl⟩
theorem lk_X10_159 : zLkV RX10 159 mX10_isCloseToOne := ⟨zm4 38 rfl rfl, zm4 40 rfl rfl, zmp 18 rfl, zm1 8 rfl rfl⟩
theorem lk_X11_209 : zLkV RX11 209 mX10_all := ⟨zm4 49 rfl rfl, zm4 50 rfl rfl, zm4 51 rfl rfl, zm1 8 rfl rfl⟩
theorem lk_X11_212 : zLkS RX11 212 mX11_walkOver := ⟨zm4 53 rfl rfl, zm4 54 rfl rfl, zm1 1 rfl rfl⟩
theorem lk_X11_216 : zLkS RX11 216 mX11_walkBy := ⟨zm4 56 rfl rfl, zm4 57 rfl rfl, zm1 1 rfl rfl⟩
theorem lk_X11_231 : zLkV RX11 231 mX4_lookAll := ⟨zm4 64 rfl rfl, zm4 65 rfl rfl, zm4 66 rfl rfl, zm1 13 rfl rfl⟩
theorem lk_X4_54 : zLkS RX4 54 mX4_look := ⟨zm4 70 rfl rfl, zm4 71 rfl rfl, zm1 13 rfl rfl⟩
theorem lk_X4_61 : zLkV RX4 61 mX4_takeIn := ⟨zm4 73 rfl rfl, zm4 75 rfl rfl, zmp 19 rfl, zm1 13 rfl rfl⟩
theorem lk_X4_74 : zLkV RX4 74 mX10_bunsFor := ⟨zm4 78 rfl rfl, zm4 79 rfl rfl, zm4 80 rfl rfl, zm1 8 rfl rfl⟩
theorem lk_X4_78 : zLkV RX4 78 mX10_goBy := ⟨zm4 82 rfl rfl, zm3 191 rfl rfl, zm3 192 rfl rfl, zm1 8 rfl rfl⟩
theorem lk_X4_81 : zLkV RX4 81 mX10_takeBack := ⟨zm4 83 rfl rfl, zm4 84 rfl rfl, zm4 85 rfl rfl, zm1 8 rfl rfl⟩
theorem lk_X11_253 : zLkS RX11 253 mX11_leastOf := ⟨zm4 103 rfl rfl, zm4 104 rfl rfl, zm1 1 rfl rfl⟩
theorem lk_X11_256 : zLkV RX11 256 mX4_playOut := ⟨zm4 110 rfl rfl, zm4 111 rfl rfl, zm4 112 rfl rfl, zm1 13 rfl rfl⟩
theorem lk_X4_91 : zLkS RX4 91 mX4_playOn := ⟨zm4 114 rfl rfl, zm4 115 rfl rfl, zm1 13 rfl rfl⟩
theorem lk_X4_95 : zLkV RX4 95 mX10_isOver := ⟨zm4 117 rfl rfl, zm3 49 rfl rfl, zm3 50 rfl rfl, zm1 8 rfl rfl⟩
theorem lk_X11_270 : zLkV RX11 270 mX5_add := ⟨zm4 126 rfl rfl, zm4 127 rfl rfl, zm4 128 rfl rfl, zm1 10 rfl rfl⟩
theorem lk_X11_271 : zLkV RX11 271 mX5_lookAll := ⟨zm4 138 rfl rfl, zm4 139 rfl rfl, zm4 140 rfl rfl, zm1 10 rfl rfl⟩
theorem lk_X5_43 : zLkV RX5 43 mX5_wrongBy := ⟨zm4 142 rfl rfl, zm4 144 rfl rfl, zmp 20 rfl, zm1 10 rfl rfl⟩
theorem lk_X5_57 : zLkV RX5 57 mX5_wrongBehind := ⟨zm4 146 rfl rfl, zm4 148 rfl rfl, zmp 21 rfl, zm1 10 rfl rfl⟩
theorem lk_X5_61 : zLkN RX5 61 mX11_rainBehind "ThirteenthBun" := ⟨List.mem_of_getElem? (i := 5) rfl, zm3 196 rfl rfl, zm1 1 rfl rfl⟩
theorem lk_X5_65 : zLkN RX5 65 mX11_asks "ThirteenthBun" := ⟨List.mem_of_getElem? (i := 6) rfl, zm2 202 rfl rfl, zm1 1 rfl rfl⟩
theorem lk_X5_68 : zLkN RX5 68 mX11_draws "ThirteenthBun" := ⟨List.mem_of_getElem? (i := 7) rfl, zm2 191 rfl rfl, zm1 1 rfl rfl⟩
theorem lk_X5_72 : zLkN RX5 72 mX11_trayBehind "ThirteenthBun" := ⟨List.mem_of_getElem? (i := 8) rfl, zm3 214 rfl rfl, zm1 1 rfl rfl⟩
theorem lk_X5_47 : zLkV RX5 47 mX5_takeIn := ⟨zm4 154 rfl rfl, zm4 156 rfl rfl, zmp 22 rfl, zm1 10 rfl rfl⟩
theorem lk_X11_284 : zLkV RX11 284 mX10_drawLot := ⟨zm4 176 rfl rfl, zm4 177 rfl rfl, zm4 178 rfl rfl, zm1 8 rfl rfl⟩
theorem lk_X11_290 : zLkV RX11 290 mX11_isInRow := ⟨zm4 193 rfl rfl, zm4 195 rfl rfl, zmp 23 rfl, zm1 1 rfl rfl⟩
theorem lk_X11_293 : zLkV RX11 293 mX10_isAct := ⟨zm4 205 rfl rfl, zm4 206 rfl rfl, zm4 207 rfl rfl, zm1 8 rfl rfl⟩
theorem lk_X11_296 : zLkS RX11 296 mX11_isSheet := ⟨zm4 213 rfl rfl, zm4 214 rfl rfl, zm1 1 rfl rfl⟩
theorem lk_X11_299 : zLkS RX11 299 mJ7_fill_d0a16 := ⟨zm4 216 rfl rfl, zm4 217 rfl rfl, zm1 11 rfl rfl⟩
theorem lk_X11_305 : zLkV RX11 305 mX11_hasItem := ⟨zm4 223 rfl rfl, zm4 225 rfl rfl, zmp 24 rfl, zm1 1 rfl rfl⟩
theorem lk_X11_308 : zLkS RX11 308 mX11_narrowed := ⟨zm4 227 rfl rfl, zm4 228 rfl rfl, zm1 1 rfl rfl⟩
theorem lk_X11_311 : zLkV RX11 311 mX11_takenFor := ⟨zm4 234 rfl rfl, zm4 236 rfl rfl, zmp 25 rfl, zm1 1 rfl rfl⟩
theorem lk_X11_314 : zLkS RX11 314 mX11_isShelf := ⟨zm5 10 rfl rfl, zm5 11 rfl rfl, zm1 1 rfl rfl⟩
theorem lk_X11_317 : zLkV RX11 317 mX11_houseOn := ⟨zm5 17 rfl rfl, zm5 19 rfl rfl, zmp 26 rfl, zm1 1 rfl rfl⟩
theorem lk_X11_320 : zLkS RX11 320 mX11_isUnder := ⟨zm5 21 rfl rfl, zm2 214 rfl rfl, zm1 1 rfl rfl⟩
theorem lk_X11_327 : zLkV RX11 327 mX2_become := ⟨zm5 26 rfl rfl, zm5 27 rfl rfl, zm5 28 rfl rfl, zm1 2 rfl rfl⟩
theorem lk_X11_327_X0 : zLkU RX11 327 RX0 "ThirteenthBun$House" ⟨"ThirteenthBun$House", "become", "(II)V"⟩ mX2_become := ⟨rfl, zm5 26 rfl rfl, zm5 29 rfl rfl, zm5 30 rfl rfl, zm5 27 rfl rfl, zm1 2 rfl rfl, by decide +kernel, by decide +kernel, by decide +kernel⟩
theorem lk_X11_327_X8 : zLkU RX11 327 RX8 "ThirteenthBun$House" ⟨"ThirteenthBun$House", "become", "(II)V"⟩ mX2_become := ⟨rfl, zm5 26 rfl rfl, zm5 29 rfl rfl, zm5 33 rfl rfl, zm5 27 rfl rfl, zm1 2 rfl rfl, by decide +kernel, by decide +kernel, by decide +kernel⟩
theorem lk_X11_327_X1 : zLkU RX11 327 RX1 "ThirteenthBun$House" ⟨"ThirteenthBun$House", "become", "(II)V"⟩ mX2_become := ⟨rfl, zm5 26 rfl rfl, zm5 29 rfl rfl, zm5 31 rfl rfl, zm5 27 rfl rfl, zm1 2 rfl rfl, by decide +kernel, by decide +kernel, by decide +kernel⟩
theorem lk_X11_327_X9 : zLkU RX11 327 RX9 "ThirteenthBun$House" ⟨"ThirteenthBun$House", "become", "(II)V"⟩ mX2_become := ⟨rfl, zm5 26 rfl rfl, zm5 29 rfl rfl, zm5 34 rfl rfl, zm5 27 rfl rfl, zm1 2 rfl rfl, by decide +kernel, by decide +kernel, by decide +kernel⟩
theorem lk_X11_327_X3 : zLkU RX11 327 RX3 "ThirteenthBun$House" ⟨"ThirteenthBun$House", "become", "(II)V"⟩ mX2_become := ⟨rfl, zm5 26 rfl rfl, zm5 29 rfl rfl, zm5 32 rfl rfl, zm5 27 rfl rfl, zm1 2 rfl rfl, by decide +kernel, by decide +kernel, by decide +kernel⟩
theorem lk_X11_331 : zLkV RX11 331 mX2_knocks := ⟨zm5 36 rfl rfl, zm5 37 rfl rfl, zm5 38 rfl rfl, zm1 2 rfl rfl⟩
theorem lk_X11_331_X0 : zLkO RX11 331 RX0 "ThirteenthBun$House" ⟨"ThirteenthBun$House", "knocks", "(I)I"⟩ mX0_knocks := ⟨⟨_, _, _, ce_X2_knocks.1⟩, zm5 36 rfl rfl, zm5 39 rfl rfl, zm5 37 rfl rfl, zm5 40 rfl rfl, zm5 41 rfl rfl, zm1 3 rfl rfl, by decide +kernel, by decide +kernel, by decide +kernel⟩
theorem lk_X11_331_X8 : zLkU RX11 331 RX8 "ThirteenthBun$House" ⟨"ThirteenthBun$House", "knocks", "(I)I"⟩ mX2_knocks := ⟨rfl, zm5 36 rfl rfl, zm5 39 rfl rfl, zm5 52 rfl rfl, zm5 37 rfl rfl, zm1 2 rfl rfl, by decide +kernel, by decide +kernel, by decide +kernel⟩
theorem lk_X11_331_X1 : zLkU RX11 331 RX1 "ThirteenthBun$House" ⟨"ThirteenthBun$House", "knocks", "(I)I"⟩ mX2_knocks := ⟨rfl, zm5 36 rfl rfl, zm5 39 rfl rfl, zm5 50 rfl rfl, zm5 37 rfl rfl, zm1 2 rfl rfl, by decide +kernel, by decide +kernel, by decide +kernel⟩
theorem lk_X11_331_X9 : zLkO RX11 331 RX9 "ThirteenthBun$House" ⟨"ThirteenthBun$House", "knocks", "(I)I"⟩ mX9_knocks := ⟨⟨_, _, _, ce_X2_knocks.1⟩, zm5 36 rfl rfl, zm5 39 rfl rfl, zm5 37 rfl rfl, zm5 53 rfl rfl, zm5 54 rfl rfl, zm1 5 rfl rfl, by decide +kernel, by decide +kernel, by decide +kernel⟩
theorem lk_X11_331_X3 : zLkU RX11 331 RX3 "ThirteenthBun$House" ⟨"ThirteenthBun$House", "knocks", "(I)I"⟩ mX2_knocks := ⟨rfl, zm5 36 rfl rfl, zm5 39 rfl rfl, zm5 51 rfl rfl, zm5 37 rfl rfl, zm1 2 rfl rfl, by decide +kernel, by decide +kernel, by decide +kernel⟩
theorem lk_X0_7_X0 : zLkU RX0 7 RX0 "ThirteenthBun$House" ⟨"ThirteenthBun$Bride", "begin", "(I)V"⟩ mX2_begin := ⟨rfl, zm5 43 rfl rfl, zm5 44 rfl rfl, zm5 46 rfl rfl, zm5 47 rfl rfl, zm1 2 rfl rfl, by decide +kernel, by decide +kernel, by decide +kernel⟩
theorem lk_X0_13 : zLkK RX0 13 mX2_knocks := ⟨by decide +kernel, zm5 49 rfl rfl, zm5 39 rfl rfl, zm1 74 rfl rfl, zm5 37 rfl rfl, zm1 2 rfl rfl⟩
theorem lk_X9_7_X9 : zLkU RX9 7 RX9 "ThirteenthBun$House" ⟨"ThirteenthBun$Trouble", "begin", "(I)V"⟩ mX2_begin := ⟨rfl, zm5 56 rfl rfl, zm5 57 rfl rfl, zm5 58 rfl rfl, zm5 47 rfl rfl, zm1 2 rfl rfl, by decide +kernel, by decide +kernel, by decide +kernel⟩
theorem lk_X2_29 : zLkV RX2 29 mX2_begin := ⟨zm5 63 rfl rfl, zm5 47 rfl rfl, zm8 59 rfl rfl, zm1 2 rfl rfl⟩
theorem lk_X2_29_X0 : zLkU RX2 29 RX0 "ThirteenthBun$House" ⟨"ThirteenthBun$House", "begin", "(I)V"⟩ mX2_begin := ⟨rfl, zm5 63 rfl rfl, zm8 56 rfl rfl, zm8 57 rfl rfl, zm5 47 rfl rfl, zm1 2 rfl rfl, by decide +kernel, by decide +kernel, by decide +kernel⟩
theorem lk_X2_29_X8 : zLkU RX2 29 RX8 "ThirteenthBun$House" ⟨"ThirteenthBun$House", "begin", "(I)V"⟩ mX2_begin := ⟨rfl, zm5 63 rfl rfl, zm8 56 rfl rfl, zm8 61 rfl rfl, zm5 47 rfl rfl, zm1 2 rfl rfl, by decide +kernel, by decide +kernel, by decide +kernel⟩
theorem lk_X2_29_X1 : zLkU RX2 29 RX1 "ThirteenthBun$House" ⟨"ThirteenthBun$House", "begin", "(I)V"⟩ mX2_begin := ⟨rfl, zm5 63 rfl rfl, zm8 56 rfl rfl, zm8 58 rfl rfl, zm5 47 rfl rfl, zm1 2 rfl rfl, by decide +kernel, by decide +kernel, by decide +kernel⟩
theorem lk_X2_29_X9 : zLkU RX2 29 RX9 "ThirteenthBun$House" ⟨"ThirteenthBun$House", "begin", "(I)V"⟩ mX2_begin := ⟨rfl, zm5 63 rfl rfl, zm8 56 rfl rfl, zm8 62 rfl rfl, zm5 47 rfl rfl, zm1 2 rfl rfl, by decide +kernel, by decide +kernel, by decide +kernel⟩
theorem lk_X2_29_X3 : zLkU RX2 29 RX3 "ThirteenthBun$House" ⟨"ThirteenthBun$House", "begin", "(I)V"⟩ mX2_begin := ⟨rfl, zm5 63 rfl rfl, zm8 56 rfl rfl, zm8 60 rfl rfl, zm5 47 rfl rfl, zm1 2 rfl rfl, by decide +kernel, by decide +kernel, by decide +kernel⟩
theorem lk_X11_334 : zLkV RX11 334 mX2_waits := ⟨zm5 64 rfl rfl, zm5 65 rfl rfl, zm5 66 rfl rfl, zm1 2 rfl rfl⟩
theorem lk_X11_334_X0 : zLkU RX11 334 RX0 "ThirteenthBun$House" ⟨"ThirteenthBun$House", "waits", "(I)I"⟩ mX2_waits := ⟨rfl, zm5 64 rfl rfl, zm5 67 rfl rfl, zm5 68 rfl rfl, zm5 65 rfl rfl, zm1 2 rfl rfl, by decide +kernel, by decide +kernel, by decide +kernel⟩
theorem lk_X11_334_X8 : zLkO RX11 334 RX8 "ThirteenthBun$House" ⟨"ThirteenthBun$House", "waits", "(I)I"⟩ mX8_waits := ⟨⟨_, _, _, ce_X2_waits.1⟩, zm5 64 rfl rfl, zm5 67 rfl rfl, zm5 65 rfl rfl, zm5 79 rfl rfl, zm5 80 rfl rfl, zm1 4 rfl rfl, by decide +kernel, by decide +kernel, by decide +kernel⟩
theorem lk_X11_334_X1 : zLkU RX11 334 RX1 "ThirteenthBun$House" ⟨"ThirteenthBun$House", "waits", "(I)I"⟩ mX2_waits := ⟨rfl, zm5 64 rfl rfl, zm5 67 rfl rfl, zm5 69 rfl rfl, zm5 65 rfl rfl, zm1 2 rfl rfl, by decide +kernel, by decide +kernel, by decide +kernel⟩
theorem lk_X11_334_X9 : zLkO RX11 334 RX9 "ThirteenthBun$House" ⟨"ThirteenthBun$House", "waits", "(I)I"⟩ mX8_waits := ⟨⟨_, _, _, ce_X2_waits.1⟩, zm5 64 rfl rfl, zm5 67 rfl rfl, zm5 65 rfl rfl, zm5 87 rfl rfl, zm5 80 rfl rfl, zm1 4 rfl rfl, by decide +kernel, by decide +kernel, by decide +kernel⟩
theorem lk_X11_334_X3 : zLkO RX11 334 RX3 "ThirteenthBun$House" ⟨"ThirteenthBun$House", "waits", "(I)I"⟩ mX3_waits := ⟨⟨_, _, _, ce_X2_waits.1⟩, zm5 64 rfl rfl, zm5 67 rfl rfl, zm5 65 rfl rfl, zm5 70 rfl rfl, zm5 71 rfl rfl, zm1 7 rfl rfl, by decide +kernel, by decide +kernel, by decide +kernel⟩
theorem lk_X3_7_X3 : zLkU RX3 7 RX3 "ThirteenthBun$House" ⟨"ThirteenthBun$Lovell", "begin", "(I)V"⟩ mX2_begin := ⟨rfl, zm5 73 rfl rfl, zm5 74 rfl rfl, zm5 75 rfl rfl, zm5 47 rfl rfl, zm1 2 rfl rfl, by decide +kernel, by decide +kernel, by decide +kernel⟩
theorem lk_X8_7_X8 : zLkU RX8 7 RX8 "ThirteenthBun$House" ⟨"ThirteenthBun$Sad", "begin", "(I)V"⟩ mX2_begin := ⟨rfl, zm5 82 rfl rfl, zm5 83 rfl rfl, zm5 84 rfl rfl, zm5 47 rfl rfl, zm1 2 rfl rfl, by decide +kernel, by decide +kernel, by decide +kernel⟩
theorem lk_X8_7_X9 : zLkU RX8 7 RX9 "ThirteenthBun$House" ⟨"ThirteenthBun$Sad", "begin", "(I)V"⟩ mX2_begin := ⟨rfl, zm5 82 rfl rfl, zm5 83 rfl rfl, zm5 85 rfl rfl, zm5 47 rfl rfl, zm1 2 rfl rfl, by decide +kernel, by decide +kernel, by decide +kernel⟩
theorem lk_X8_17 : zLkK RX8 17 mX2_waits := ⟨by decide +kernel, zm5 86 rfl rfl, zm5 67 rfl rfl, zm1 86 rfl rfl, zm5 65 rfl rfl, zm1 2 rfl rfl⟩
theorem lk_X2_33 : zLkV RX2 33 mX2_knocks := ⟨zm5 89 rfl rfl, zm5 37 rfl rfl, zm5 38 rfl rfl, zm1 2 rfl rfl⟩
theorem lk_X2_33_X0 : zLkO RX2 33 RX0 "ThirteenthBun$House" ⟨"ThirteenthBun$House", "knocks", "(I)I"⟩ mX0_knocks := ⟨⟨_, _, _, ce_X2_knocks.1⟩, zm5 89 rfl rfl, zm5 39 rfl rfl, zm5 37 rfl rfl, zm5 40 rfl rfl, zm5 41 rfl rfl, zm1 3 rfl rfl, by decide +kernel, by decide +kernel, by decide +kernel⟩
theorem lk_X2_33_X8 : zLkU RX2 33 RX8 "ThirteenthBun$House" ⟨"ThirteenthBun$House", "knocks", "(I)I"⟩ mX2_knocks := ⟨rfl, zm5 89 rfl rfl, zm5 39 rfl rfl, zm5 52 rfl rfl, zm5 37 rfl rfl, zm1 2 rfl rfl, by decide +kernel, by decide +kernel, by decide +kernel⟩
theorem lk_X2_33_X1 : zLkU RX2 33 RX1 "ThirteenthBun$House" ⟨"ThirteenthBun$House", "knocks", "(I)I"⟩ mX2_knocks := ⟨rfl, zm5 89 rfl rfl, zm5 39 rfl rfl, zm5 50 rfl rfl, zm5 37 rfl rfl, zm1 2 rfl rfl, by decide +kernel, by decide +kernel, by decide +kernel⟩
theorem lk_X2_33_X9 : zLkO RX2 33 RX9 "ThirteenthBun$House" ⟨"ThirteenthBun$House", "knocks", "(I)I"⟩ mX9_knocks := ⟨⟨_, _, _, ce_X2_knocks.1⟩, zm5 89 rfl rfl, zm5 39 rfl rfl, zm5 37 rfl rfl, zm5 53 rfl rfl, zm5 54 rfl rfl, zm1 5 rfl rfl, by decide +kernel, by decide +kernel, by decide +kernel⟩
theorem lk_X2_33_X3 : zLkU RX2 33 RX3 "ThirteenthBun$House" ⟨"ThirteenthBun$House", "knocks", "(I)I"⟩ mX2_knocks := ⟨rfl, zm5 89 rfl rfl, zm5 39 rfl rfl, zm5 51 rfl rfl, zm5 37 rfl rfl, zm1 2 rfl rfl, by decide +kernel, by decide +kernel, by decide +kernel⟩
theorem lk_X11_337 : zLkV RX11 337 mX2_counts := ⟨zm5 90 rfl rfl, zm5 91 rfl rfl, zm5 92 rfl rfl, zm1 2 rfl rfl⟩
theorem lk_X11_337_X0 : zLkU RX11 337 RX0 "ThirteenthBun$House" ⟨"ThirteenthBun$House", "counts", "(I)I"⟩ mX2_counts := ⟨rfl, zm5 90 rfl rfl, zm5 93 rfl rfl, zm5 94 rfl rfl, zm5 91 rfl rfl, zm1 2 rfl rfl, by decide +kernel, by decide +kernel, by decide +kernel⟩
theorem lk_X11_337_X8 : zLkU RX11 337 RX8 "ThirteenthBun$House" ⟨"ThirteenthBun$House", "counts", "(I)I"⟩ mX2_counts := ⟨rfl, zm5 90 rfl rfl, zm5 93 rfl rfl, zm5 110 rfl rfl, zm5 91 rfl rfl, zm1 2 rfl rfl, by decide +kernel, by decide +kernel, by decide +kernel⟩
theorem lk_X11_337_X1 : zLkO RX11 337 RX1 "ThirteenthBun$House" ⟨"ThirteenthBun$House", "counts", "(I)I"⟩ mX1_counts := ⟨⟨_, _, _, ce_X2_counts.1⟩, zm5 90 rfl rfl, zm5 93 rfl rfl, zm5 91 rfl rfl, zm5 95 rfl rfl, zm5 96 rfl rfl, zm1 6 rfl rfl, by decide +kernel, by decide +kernel, by decide +kernel⟩
theorem lk_X11_337_X9 : zLkU RX11 337 RX9 "ThirteenthBun$House" ⟨"ThirteenthBun$House", "counts", "(I)I"⟩ mX2_counts := ⟨rfl, zm5 90 rfl rfl, zm5 93 rfl rfl, zm5 111 rfl rfl, zm5 91 rfl rfl, zm1 2 rfl rfl, by decide +kernel, by decide +kernel, by decide +kernel⟩
theorem lk_X11_337_X3 : zLkO RX11 337 RX3 "ThirteenthBun$House" ⟨"ThirteenthBun$House", "counts", "(I)I"⟩ mX3_counts := ⟨⟨_, _, _, ce_X2_counts.1⟩, zm5 90 rfl rfl, zm5 93 rfl rfl, zm5 91 rfl rfl, zm5 103 rfl rfl, zm5 104 rfl rfl, zm1 7 rfl rfl, by decide +kernel, by decide +kernel, by decide +kernel⟩
theorem lk_X1_7_X1 : zLkU RX1 7 RX1 "ThirteenthBun$House" ⟨"ThirteenthBun$Farm", "begin", "(I)V"⟩ mX2_begin := ⟨rfl, zm5 98 rfl rfl, zm5 99 rfl rfl, zm5 100 rfl rfl, zm5 47 rfl rfl, zm1 2 rfl rfl, by decide +kernel, by decide +kernel, by decide +kernel⟩
theorem lk_X1_7_X3 : zLkU RX1 7 RX3 "ThirteenthBun$House" ⟨"ThirteenthBun$Farm", "begin", "(I)V"⟩ mX2_begin := ⟨rfl, zm5 98 rfl rfl, zm5 99 rfl rfl, zm5 101 rfl rfl, zm5 47 rfl rfl, zm1 2 rfl rfl, by decide +kernel, by decide +kernel, by decide +kernel⟩
theorem lk_X1_13 : zLkK RX1 13 mX2_counts := ⟨by decide +kernel, zm5 102 rfl rfl, zm5 93 rfl rfl, zm1 110 rfl rfl, zm5 91 rfl rfl, zm1 2 rfl rfl⟩
theorem lk_X3_17 : zLkK RX3 17 mX1_counts := ⟨by decide +kernel, zm5 106 rfl rfl, zm8 63 rfl rfl, zm1 122 rfl rfl, zm5 96 rfl rfl, zm1 6 rfl rfl⟩
theorem lk_X3_24_X3 : zLkU RX3 24 RX3 "ThirteenthBun$House" ⟨"ThirteenthBun$Lovell", "knocks", "(I)I"⟩ mX2_knocks := ⟨rfl, zm5 107 rfl rfl, zm5 108 rfl rfl, zm5 109 rfl rfl, zm5 37 rfl rfl, zm1 2 rfl rfl, by decide +kernel, by decide +kernel, by decide +kernel⟩
theorem lk_X11_340 : zLkV RX11 340 mX2_sits := ⟨zm5 113 rfl rfl, zm5 114 rfl rfl, zm5 115 rfl rfl, zm1 2 rfl rfl⟩
theorem lk_X11_340_X0 : zLkU RX11 340 RX0 "ThirteenthBun$House" ⟨"ThirteenthBun$House", "sits", "(I)I"⟩ mX2_sits := ⟨rfl, zm5 113 rfl rfl, zm5 116 rfl rfl, zm5 117 rfl rfl, zm5 114 rfl rfl, zm1 2 rfl rfl, by decide +kernel, by decide +kernel, by decide +kernel⟩
theorem lk_X11_340_X8 : zLkU RX11 340 RX8 "ThirteenthBun$House" ⟨"ThirteenthBun$House", "sits", "(I)I"⟩ mX2_sits := ⟨rfl, zm5 113 rfl rfl, zm5 116 rfl rfl, zm5 120 rfl rfl, zm5 114 rfl rfl, zm1 2 rfl rfl, by decide +kernel, by decide +kernel, by decide +kernel⟩
theorem lk_X11_340_X1 : zLkU RX11 340 RX1 "ThirteenthBun$House" ⟨"ThirteenthBun$House", "sits", "(I)I"⟩ mX2_sits := ⟨rfl, zm5 113 rfl rfl, zm5 116 rfl rfl, zm5 118 rfl rfl, zm5 114 rfl rfl, zm1 2 rfl rfl, by decide +kernel, by decide +kernel, by decide +kernel⟩
theorem lk_X11_340_X9 : zLkO RX11 340 RX9 "ThirteenthBun$House" ⟨"ThirteenthBun$House", "sits", "(I)I"⟩ mX9_sits := ⟨⟨_, _, _, ce_X2_sits.1⟩, zm5 113 rfl rfl, zm5 116 rfl rfl, zm5 114 rfl rfl, zm5 121 rfl rfl, zm5 122 rfl rfl, zm1 5 rfl rfl, by decide +kernel, by decide +kernel, by decide +kernel⟩
theorem lk_X11_340_X3 : zLkU RX11 340 RX3 "ThirteenthBun$House" ⟨"ThirteenthBun$House", "sits", "(I)I"⟩ mX2_sits := ⟨rfl, zm5 113 rfl rfl, zm5 116 rfl rfl, zm5 119 rfl rfl, zm5 114 rfl rfl, zm1 2 rfl rfl, by decide +kernel, by decide +kernel, by decide +kernel⟩
theorem lk_X9_24_X9 : zLkU RX9 24 RX9 "ThirteenthBun$Sad" ⟨"ThirteenthBun$Trouble", "waits", "(I)I"⟩ mX8_waits := ⟨rfl, zm5 127 rfl rfl, zm5 128 rfl rfl, zm5 130 rfl rfl, zm5 80 rfl rfl, zm1 4 rfl rfl, by decide +kernel, by decide +kernel, by decide +kernel⟩
theorem lk_X2_37 : zLkV RX2 37 mX2_waits := ⟨zm5 132 rfl rfl, zm5 65 rfl rfl, zm5 66 rfl rfl, zm1 2 rfl rfl⟩
theorem lk_X2_37_X0 : zLkU RX2 37 RX0 "ThirteenthBun$House" ⟨"ThirteenthBun$House", "waits", "(I)I"⟩ mX2_waits := ⟨rfl, zm5 132 rfl rfl, zm5 67 rfl rfl, zm5 68 rfl rfl, zm5 65 rfl rfl, zm1 2 rfl rfl, by decide +kernel, by decide +kernel, by decide +kernel⟩
theorem lk_X2_37_X8 : zLkO RX2 37 RX8 "ThirteenthBun$House" ⟨"ThirteenthBun$House", "waits", "(I)I"⟩ mX8_waits := ⟨⟨_, _, _, ce_X2_waits.1⟩, zm5 132 rfl rfl, zm5 67 rfl rfl, zm5 65 rfl rfl, zm5 79 rfl rfl, zm5 80 rfl rfl, zm1 4 rfl rfl, by decide +kernel, by decide +kernel, by decide +kernel⟩
theorem lk_X2_37_X1 : zLkU RX2 37 RX1 "ThirteenthBun$House" ⟨"ThirteenthBun$House", "waits", "(I)I"⟩ mX2_waits := ⟨rfl, zm5 132 rfl rfl, zm5 67 rfl rfl, zm5 69 rfl rfl, zm5 65 rfl rfl, zm1 2 rfl rfl, by decide +kernel, by decide +kernel, by decide +kernel⟩
theorem lk_X2_37_X9 : zLkO RX2 37 RX9 "ThirteenthBun$House" ⟨"ThirteenthBun$House", "waits", "(I)I"⟩ mX8_waits := ⟨⟨_, _, _, ce_X2_waits.1⟩, zm5 132 rfl rfl, zm5 67 rfl rfl, zm5 65 rfl rfl, zm5 87 rfl rfl, zm5 80 rfl rfl, zm1 4 rfl rfl, by decide +kernel, by decide +kernel, by decide +kernel⟩
theorem lk_X2_37_X3 : zLkO RX2 37 RX3 "ThirteenthBun$House" ⟨"ThirteenthBun$House", "waits", "(I)I"⟩ mX3_waits := ⟨⟨_, _, _, ce_X2_waits.1⟩, zm5 132 rfl rfl, zm5 67 rfl rfl, zm5 65 rfl rfl, zm5 70 rfl rfl, zm5 71 rfl rfl, zm1 7 rfl rfl, by decide +kernel, by decide +kernel, by decide +kernel⟩
theorem lk_X2_40 : zLkV RX2 40 mX2_counts := ⟨zm5 133 rfl rfl, zm5 91 rfl rfl, zm5 92 rfl rfl, zm1 2 rfl rfl⟩
theorem lk_X2_40_X0 : zLkU RX2 40 RX0 "ThirteenthBun$House" ⟨"ThirteenthBun$House", "counts", "(I)I"⟩ mX2_counts := ⟨rfl, zm5 133 rfl rfl, zm5 93 rfl rfl, zm5 94 rfl rfl, zm5 91 rfl rfl, zm1 2 rfl rfl, by decide +kernel, by decide +kernel, by decide +kernel⟩
theorem lk_X2_40_X8 : zLkU RX2 40 RX8 "ThirteenthBun$House" ⟨"ThirteenthBun$House", "counts", "(I)I"⟩ mX2_counts := ⟨rfl, zm5 133 rfl rfl, zm5 93 rfl rfl, zm5 110 rfl rfl, zm5 91 rfl rfl, zm1 2 rfl rfl, by decide +kernel, by decide +kernel, by decide +kernel⟩
theorem lk_X2_40_X1 : zLkO RX2 40 RX1 "ThirteenthBun$House" ⟨"ThirteenthBun$House", "counts", "(I)I"⟩ mX1_counts := ⟨⟨_, _, _, ce_X2_counts.1⟩, zm5 133 rfl rfl, zm5 93 rfl rfl, zm5 91 rfl rfl, zm5 95 rfl rfl, zm5 96 rfl rfl, zm1 6 rfl rfl, by decide +kernel, by decide +kernel, by decide +kernel⟩
theorem lk_X2_40_X9 : zLkU RX2 40 RX9 "ThirteenthBun$House" ⟨"ThirteenthBun$House", "counts", "(I)I"⟩ mX2_counts := ⟨rfl, zm5 133 rfl rfl, zm5 93 rfl rfl, zm5 111 rfl rfl, zm5 91 rfl rfl, zm1 2 rfl rfl, by decide +kernel, by decide +kernel, by decide +kernel⟩
theorem lk_X2_40_X3 : zLkO RX2 40 RX3 "ThirteenthBun$House" ⟨"ThirteenthBun$House", "counts", "(I)I"⟩ mX3_counts := ⟨⟨_, _, _, ce_X2_counts.1⟩, zm5 133 rfl rfl, zm5 93 rfl rfl, zm5 91 rfl rfl, zm5 103 rfl rfl, zm5 104 rfl rfl, zm1 7 rfl rfl, by decide +kernel, by decide +kernel, by decide +kernel⟩
theorem lk_X12_71 : zLkS RX12 71 mX12_in1 := ⟨zm6 40 rfl rfl, zm6 41 rfl rfl, zm1 14 rfl rfl⟩
theorem lk_X12_142 : zLkV RX12 142 mX12_next := ⟨zm6 48 rfl rfl, zm6 50 rfl rfl, zmp 27 rfl, zm1 14 rfl rfl⟩
theorem lk_X12_123 : zLkV RX12 123 mX12_byteAt := ⟨zm6 52 rfl rfl, zm6 54 rfl rfl, zmp 28 rfl, zm1 14 rfl rfl⟩
theorem lk_X12_136 : zLkV RX12 136 mX12_readsName := ⟨zm6 56 rfl rfl, zm6 58 rfl rfl, zmp 29 rfl, zm1 14 rfl rfl⟩
theorem lk_X12_129 : zLkV RX12 129 mX12_isNameOf := ⟨zm6 60 rfl rfl, zm6 62 rfl rfl, zmp 30 rfl, zm1 14 rfl rfl⟩
theorem lk_X12_139 : zLkV RX12 139 mX12_readsNumber := ⟨zm6 64 rfl rfl, zm6 66 rfl rfl, zmp 31 rfl, zm1 14 rfl rfl⟩
theorem lk_X12_179 : zLkV RX12 179 mX12_readsRule := ⟨zm6 68 rfl rfl, zm6 70 rfl rfl, zmp 32 rfl, zm1 14 rfl rfl⟩
theorem lk_X12_162 : zLkV RX12 162 mX12_takes := ⟨zm6 72 rfl rfl, zm6 74 rfl rfl, zmp 33 rfl, zm1 14 rfl rfl⟩
theorem lk_X12_159 : zLkV RX12 159 mX12_readsCondition := ⟨zm6 76 rfl rfl, zm6 78 rfl rfl, zmp 34 rfl, zm1 14 rfl rfl⟩
theorem lk_X12_174 : zLkV RX12 174 mX12_readsAll := ⟨zm6 80 rfl rfl, zm6 82 rfl rfl, zmp 35 rfl, zm1 14 rfl rfl⟩
theorem lk_X12_171 : zLkV RX12 171 mX12_readsOne := ⟨zm6 84 rfl rfl, zm6 86 rfl rfl, zmp 36 rfl, zm1 14 rfl rfl⟩
theorem lk_X12_165 : zLkV RX12 165 mX12_readsWithin := ⟨zm6 88 rfl rfl, zm6 90 rfl rfl, zmp 37 rfl, zm1 14 rfl rfl⟩
theorem lk_X12_168 : zLkV RX12 168 mX12_readsLike := ⟨zm6 92 rfl rfl, zm6 94 rfl rfl, zmp 38 rfl, zm1 14 rfl rfl⟩
theorem lk_X12_152 : zLkV RX12 152 mX12_readsValue := ⟨zm6 96 rfl rfl, zm6 98 rfl rfl, zmp 39 rfl, zm1 14 rfl rfl⟩
theorem lk_X12_148 : zLkV RX12 148 mX12_lays := ⟨zm6 100 rfl rfl, zm6 102 rfl rfl, zmp 40 rfl, zm1 14 rfl rfl⟩
theorem lk_X12_211 : zLkS RX12 211 mX12_isRank := ⟨zm6 108 rfl rfl, zm6 109 rfl rfl, zm1 14 rfl rfl⟩
theorem lk_X12_214 : zLkS RX12 214 mX12_isDigit := ⟨zm6 111 rfl rfl, zm6 112 rfl rfl, zm1 14 rfl rfl⟩
theorem lk_X12_217 : zLkS RX12 217 mX12_isLane := ⟨zm6 114 rfl rfl, zm6 115 rfl rfl, zm1 14 rfl rfl⟩
theorem lk_X12_185 : zLkV RX12 185 mX12_puts := ⟨zm6 117 rfl rfl, zm6 119 rfl rfl, zmp 41 rfl, zm1 14 rfl rfl⟩
theorem lk_X12_220 : zLkV RX12 220 mX12_isHouse := ⟨zm6 125 rfl rfl, zm6 127 rfl rfl, zmp 42 rfl, zm1 14 rfl rfl⟩
theorem lk_X12_94 : zLkV RX12 94 mX12_drawsOf := ⟨zm6 129 rfl rfl, zm6 131 rfl rfl, zmp 43 rfl, zm1 14 rfl rfl⟩
theorem lk_X12_79 : zLkV RX12 79 mX12_get := ⟨zm6 133 rfl rfl, zm6 135 rfl rfl, zmp 44 rfl, zm1 14 rfl rfl⟩
theorem lk_X12_83 : zLkS RX12 83 mX12_drawsBy := ⟨zm6 137 rfl rfl, zm6 138 rfl rfl, zm1 14 rfl rfl⟩
theorem lk_X12_91 : zLkV RX12 91 mX12_asksOf := ⟨zm6 140 rfl rfl, zm6 142 rfl rfl, zmp 45 rfl, zm1 14 rfl rfl⟩
theorem lk_X12_87 : zLkS RX12 87 mX12_asksBy := ⟨zm6 144 rfl rfl, zm6 145 rfl rfl, zm1 14 rfl rfl⟩
theorem lk_X12_192 : zLkV RX12 192 mX12_willOf := ⟨zm6 147 rfl rfl, zm6 149 rfl rfl, zmp 46 rfl, zm1 14 rfl rfl⟩
theorem lk_X12_97 : zLkV RX12 97 mX12_ruleOf := ⟨zm6 151 rfl rfl, zm6 153 rfl rfl, zmp 47 rfl, zm1 14 rfl rfl⟩
theorem lk_X12_106 : zLkS RX12 106 mX12_isUnder := ⟨zm6 155 rfl rfl, zm6 156 rfl rfl, zm1 14 rfl rfl⟩
theorem lk_X12_75 : zLkS RX12 75 mX12_above := ⟨zm6 158 rfl rfl, zm6 159 rfl rfl, zm1 14 rfl rfl⟩
theorem lk_X12_110 : zLkV RX12 110 mX12_holdsFor := ⟨zm6 161 rfl rfl, zm6 163 rfl rfl, zmp 48 rfl, zm1 14 rfl rfl⟩
theorem lk_X12_100 : zLkV RX12 100 mX12_knownOf := ⟨zm6 165 rfl rfl, zm6 167 rfl rfl, zmp 49 rfl, zm1 14 rfl rfl⟩
theorem lk_X12_103 : zLkS RX12 103 mX12_joined := ⟨zm6 169 rfl rfl, zm6 170 rfl rfl, zm1 14 rfl rfl⟩
theorem lk_X12_195 : zLkV RX12 195 mX12_isServed := ⟨zm6 172 rfl rfl, zm6 174 rfl rfl, zmp 50 rfl, zm1 14 rfl rfl⟩
theorem lk_X12_223 : zLkV RX12 223 mX12_becomes := ⟨zm6 180 rfl rfl, zm6 182 rfl rfl, zmp 51 rfl, zm1 14 rfl rfl⟩
theorem lk_X12_226 : zLkV RX12 226 mX12_isOver := ⟨zm6 216 rfl rfl, zm6 218 rfl rfl, zmp 52 rfl, zm1 14 rfl rfl⟩
theorem lk_X12_229 : zLkV RX12 229 mX12_those := ⟨zm6 220 rfl rfl, zm6 222 rfl rfl, zmp 53 rfl, zm1 14 rfl rfl⟩
theorem lk_X12_232 : zLkV RX12 232 mX12_goesBy := ⟨zm6 228 rfl rfl, zm6 230 rfl rfl, zmp 54 rfl, zm1 14 rfl rfl⟩
theorem lk_X12_201 : zLkS RX12 201 mX12_rainBy := ⟨zm6 232 rfl rfl, zm6 233 rfl rfl, zm1 14 rfl rfl⟩
theorem lk_X12_182 : zLkS RX12 182 mX12_held := ⟨zm6 235 rfl rfl, zm6 236 rfl rfl, zm1 14 rfl rfl⟩
theorem lk_X12_204 : zLkV RX12 204 mX12_restOne := ⟨zm6 238 rfl rfl, zm7 0 rfl rfl, zmp 55 rfl, zm1 14 rfl rfl⟩
theorem lk_X12_189 : zLkV RX12 189 mX12_wouldCall := ⟨zm7 2 rfl rfl, zm7 4 rfl rfl, zmp 56 rfl, zm1 14 rfl rfl⟩
theorem lk_X12_208 : zLkV RX12 208 mX12_meets := ⟨zm7 6 rfl rfl, zm7 8 rfl rfl, zmp 57 rfl, zm1 14 rfl rfl⟩
theorem lk_X12_198 : zLkV RX12 198 mX12_given := ⟨zm7 10 rfl rfl, zm7 12 rfl rfl, zmp 58 rfl, zm1 14 rfl rfl⟩
theorem lk_X12_235 : zLkV RX12 235 mX12_layDown := ⟨zm7 18 rfl rfl, zm7 20 rfl rfl, zmp 59 rfl, zm1 14 rfl rfl⟩
theorem lk_X12_238 : zLkV RX12 238 mX12_restOf := ⟨zm7 22 rfl rfl, zm7 24 rfl rfl, zmp 60 rfl, zm1 14 rfl rfl⟩
theorem lk_X12_241 : zLkV RX12 241 mX12_layBack := ⟨zm7 26 rfl rfl, zm7 28 rfl rfl, zmp 61 rfl, zm1 14 rfl rfl⟩
theorem lk_X12_244 : zLkV RX12 244 mX12_bestFor := ⟨zm7 38 rfl rfl, zm7 40 rfl rfl, zmp 62 rfl, zm1 14 rfl rfl⟩
theorem lk_X12_250 : zLkV RX12 250 mX12_kinOf := ⟨zm7 58 rfl rfl, zm7 60 rfl rfl, zmp 63 rfl, zm1 14 rfl rfl⟩
theorem lk_X12_247 : zLkV RX12 247 mX12_areClose := ⟨zm7 62 rfl rfl, zm7 64 rfl rfl, zmp 64 rfl, zm1 14 rfl rfl⟩
theorem lk_X12_259 : zLkV RX12 259 mX12_goesRound := ⟨zm7 70 rfl rfl, zm7 72 rfl rfl, zmp 65 rfl, zm1 14 rfl rfl⟩
theorem lk_X12_291 : zLkS RX12 291 mX12_isPlan := ⟨zm7 78 rfl rfl, zm7 79 rfl rfl, zm1 14 rfl rfl⟩
theorem lk_X12_294 : zLkV RX12 294 mX12_triesAll := ⟨zm7 81 rfl rfl, zm7 83 rfl rfl, zmp 66 rfl, zm1 14 rfl rfl⟩
theorem lk_X12_288 : zLkV RX12 288 mX12_daysOf := ⟨zm7 85 rfl rfl, zm7 87 rfl rfl, zmp 67 rfl, zm1 14 rfl rfl⟩
theorem lk_X12_281 : zLkV RX12 281 mX12_goesPlans := ⟨zm7 89 rfl rfl, zm7 91 rfl rfl, zmp 68 rfl, zm1 14 rfl rfl⟩
theorem lk_X12_275 : zLkV RX12 275 mX12_endsPlan := ⟨zm7 93 rfl rfl, zm7 95 rfl rfl, zmp 69 rfl, zm1 14 rfl rfl⟩
theorem lk_X12_278 : zLkV RX12 278 mX12_saves := ⟨zm7 97 rfl rfl, zm7 99 rfl rfl, zmp 70 rfl, zm1 14 rfl rfl⟩
theorem lk_X12_285 : zLkV RX12 285 mX12_restores := ⟨zm7 101 rfl rfl, zm7 103 rfl rfl, zmp 71 rfl, zm1 14 rfl rfl⟩
theorem lk_X12_298 : zLkV RX12 298 mX12_isSet := ⟨zm7 117 rfl rfl, zm7 119 rfl rfl, zmp 72 rfl, zm1 14 rfl rfl⟩
theorem lk_X12_301 : zLkV RX12 301 mX12_playedFrom := ⟨zm7 129 rfl rfl, zm7 131 rfl rfl, zmp 73 rfl, zm1 14 rfl rfl⟩
theorem lk_X12_313 : zLkV RX12 313 mX12_fitting := ⟨zm7 149 rfl rfl, zm7 151 rfl rfl, zmp 74 rfl, zm1 14 rfl rfl⟩
theorem lk_X12_307 : zLkV RX12 307 mX12_tellsStranger := ⟨zm7 153 rfl rfl, zm7 155 rfl rfl, zmp 75 rfl, zm1 14 rfl rfl⟩
theorem lk_X12_310 : zLkV RX12 310 mX12_isSo := ⟨zm7 157 rfl rfl, zm7 159 rfl rfl, zmp 76 rfl, zm1 14 rfl rfl⟩
theorem lk_X12_317 : zLkV RX12 317 mX12_byLot := ⟨zm7 173 rfl rfl, zm7 175 rfl rfl, zmp 77 rfl, zm1 14 rfl rfl⟩
theorem lk_X12_323 : zLkV RX12 323 mX12_isRow := ⟨zm7 190 rfl rfl, zm7 192 rfl rfl, zmp 78 rfl, zm1 14 rfl rfl⟩
theorem lk_X12_326 : zLkV RX12 326 mX12_isAct := ⟨zm7 202 rfl rfl, zm7 204 rfl rfl, zmp 79 rfl, zm1 14 rfl rfl⟩
theorem lk_X12_329 : zLkS RX12 329 mX12_isSheet := ⟨zm7 210 rfl rfl, zm7 211 rfl rfl, zm1 14 rfl rfl⟩
theorem lk_X12_332 : zLkS RX12 332 mX12_narrowed := ⟨zm7 217 rfl rfl, zm7 218 rfl rfl, zm1 14 rfl rfl⟩
theorem lk_X12_335 : zLkV RX12 335 mX12_lacks := ⟨zm7 224 rfl rfl, zm7 226 rfl rfl, zmp 80 rfl, zm1 14 rfl rfl⟩
theorem lk_X12_338 : zLkV RX12 338 mX12_isItem := ⟨zm7 232 rfl rfl, zm7 234 rfl rfl, zmp 81 rfl, zm1 14 rfl rfl⟩
theorem lk_X12_341 : zLkV RX12 341 mX12_heldOn := ⟨zm8 8 rfl rfl, zm8 10 rfl rfl, zmp 82 rfl, zm1 14 rfl rfl⟩
theorem lk_X12_350 : zLkV RX12 350 mX12_knocksAs := ⟨zm8 16 rfl rfl, zm8 18 rfl rfl, zmp 83 rfl, zm1 14 rfl rfl⟩
theorem lk_X12_347 : zLkV RX12 347 mX12_starts := ⟨zm8 20 rfl rfl, zm8 22 rfl rfl, zmp 84 rfl, zm1 14 rfl rfl⟩
theorem lk_X12_356 : zLkV RX12 356 mX12_waitsAs := ⟨zm8 24 rfl rfl, zm8 26 rfl rfl, zmp 85 rfl, zm1 14 rfl rfl⟩
theorem lk_X12_359 : zLkV RX12 359 mX12_countsAs := ⟨zm8 28 rfl rfl, zm8 30 rfl rfl, zmp 86 rfl, zm1 14 rfl rfl⟩
theorem lk_X12_366 : zLkV RX12 366 mX12_sitsAs := ⟨zm8 32 rfl rfl, zm8 34 rfl rfl, zmp 87 rfl, zm1 14 rfl rfl⟩
theorem lk_X12_369 : zLkS RX12 369 mX12_ones := ⟨zm8 44 rfl rfl, zm8 45 rfl rfl, zm1 14 rfl rfl⟩
