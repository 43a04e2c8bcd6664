def shC : List cr_Shp := [.inl (0, [none, some 1, some 2, some 3, some 4, some 5, some 6, some 7, some 8, some 9, some 10, some 11, some 12]), .inr (200, false), .inr (200, false), .inr (200, false), .inr (200, false), .inr (200, false), .inr (200, false), .inr (200, false), .inr (200, false), .inr (200, false), .inr (200, false), .inr (200, false), .inr (200, false)]
def shH : List cr_Shp := [.inl (2, [none, some 1, some 2, some 3, some 4, some 5, some 6, some 7, some 8]), .inr (10, false), .inr (10, false), .inr (10, false), .inr (10, false), .inr (10, false), .inr (10, false), .inr (10, false), .inr (10, false)]
def shS : List cr_Shp := [.inl (3, [some 1, some 2]), .inr (16, false), .inr (16, false)]
def shF : List cr_Shp := [.inl (1, [some 1, some 10, some 23, some 24, none, none, none]), .inl (2, [none, some 2, some 3, some 4, some 5, some 6, some 7, some 8, some 9]), .inr (10, false), .inr (10, false), .inr (10, false), .inr (10, false), .inr (10, false), .inr (10, false), .inr (10, false), .inr (10, false), .inl (0, [none, some 11, some 12, some 13, some 14, some 15, some 16, some 17, some 18, some 19, some 20, some 21, some 22]), .inr (200, false), .inr (200, false), .inr (200, false), .inr (200, false), .inr (200, false), .inr (200, false), .inr (200, false), .inr (200, false), .inr (200, false), .inr (200, false), .inr (200, false), .inr (200, false), .inr (4, false), .inr (4, false)]
def shR : List cr_Shp := [.inl (4, [some 1, some 26, some 51, some 54]), .inl (1, [some 2, some 11, some 24, some 25, none, none, none]), .inl (2, [none, some 3, some 4, some 5, some 6, some 7, some 8, some 9, some 10]), .inr (10, false), .inr (10, false), .inr (10, false), .inr (10, false), .inr (10, false), .inr (10, false), .inr (10, false), .inr (10, false), .inl (0, [none, some 12, some 13, some 14, some 15, some 16, some 17, some 18, some 19, some 20, some 21, some 22, some 23]), .inr (200, false), .inr (200, false), .inr (200, false), .inr (200, false), .inr (200, false), .inr (200, false), .inr (200, false), .inr (200, false), .inr (200, false), .inr (200, false), .inr (200, false), .inr (200, false), .inr (4, false), .inr (4, false), .inl (1, [some 27, some 36, some 49, some 50, none, none, none]), .inl (2, [none, some 28, some 29, some 30, some 31, some 32, some 33, some 34, some 35]), .inr (10, false), .inr (10, false), .inr (10, false), .inr (10, false), .inr (10, false), .inr (10, false), .inr (10, false), .inr (10, false), .inl (0, [none, some 37, some 38, some 39, some 40, some 41, some 42, some 43, some 44, some 45, some 46, some 47, some 48]), .inr (200, false), .inr (200, false), .inr (200, false), .inr (200, false), .inr (200, false), .inr (200, false), .inr (200, false), .inr (200, false), .inr (200, false), .inr (200, false), .inr (200, false), .inr (200, false), .inr (4, false), .inr (4, false), .inl (3, [some 52, some 53]), .inr (16, false), .inr (16, false), .inr (7, false)]
def shM : List cr_Shp := [.inl (5, [some 1, some 2, some 3, none, none, none, none, none, some 4, some 5, some 6, some 7, some 8, some 9, some 10, some 11, some 12, some 13, some 14, some 15, some 16, some 17, some 18, some 19, some 20, some 21, some 22, some 23, some 24, some 25, none, some 26, some 27, some 28, some 29, some 30, some 31, some 32, some 33, some 34, some 35]), .inr (7, false), .inr (16, false), .inr (16, false), .inr (40, false), .inr (10, false), .inr (10, false), .inr (10, false), .inr (10, false), .inr (10, false), .inr (200, false), .inr (200, false), .inr (200, false), .inr (200, false), .inr (200, false), .inr (200, false), .inr (200, false), .inr (200, false), .inr (200, false), .inr (200, false), .inr (200, false), .inr (200, false), .inr (10, false), .inr (10, false), .inr (10, true), .inr (10, true), .inr (10, false), .inr (10, false), .inr (10, false), .inr (10, false), .inr (200, false), .inr (200, false), .inr (200, false), .inr (200, false), .inr (200, false), .inr (200, false)]
def shFF : List cr_Shp := [.inl (1, [some 1, some 10, some 23, some 24, none, none, none]), .inl (2, [none, some 2, some 3, some 4, some 5, some 6, some 7, some 8, some 9]), .inr (10, false), .inr (10, false), .inr (10, false), .inr (10, false), .inr (10, false), .inr (10, false), .inr (10, false), .inr (10, false), .inl (0, [none, some 11, some 12, some 13, some 14, some 15, some 16, some 17, some 18, some 19, some 20, some 21, some 22]), .inr (200, false), .inr (200, false), .inr (200, false), .inr (200, false), .inr (200, false), .inr (200, false), .inr (200, false), .inr (200, false), .inr (200, false), .inr (200, false), .inr (200, false), .inr (200, false), .inr (4, false), .inr (4, false), .inl (1, [some 26, some 35, some 48, some 49, none, none, none]), .inl (2, [none, some 27, some 28, some 29, some 30, some 31, some 32, some 33, some 34]), .inr (10, false), .inr (10, false), .inr (10, false), .inr (10, false), .inr (10, false), .inr (10, false), .inr (10, false), .inr (10, false), .inl (0, [none, some 36, some 37, some 38, some 39, some 40, some 41, some 42, some 43, some 44, some 45, some 46, some 47]), .inr (200, false), .inr (200, false), .inr (200, false), .inr (200, false), .inr (200, false), .inr (200, false), .inr (200, false), .inr (200, false), .inr (200, false), .inr (200, false), .inr (200, false), .inr (200, false), .inr (4, false), .inr (4, false)]
def shHH : List cr_Shp := [.inl (2, [none, some 1, some 2, some 3, some 4, some 5, some 6, some 7, some 8]), .inr (10, false), .inr (10, false), .inr (10, false), .inr (10, false), .inr (10, false), .inr (10, false), .inr (10, false), .inr (10, false), .inl (2, [none, some 10, some 11, some 12, some 13, some 14, some 15, some 16, some 17]), .inr (10, false), .inr (10, false), .inr (10, false), .inr (10, false), .inr (10, false), .inr (10, false), .inr (10, false), .inr (10, false)]
def shCC : List cr_Shp := [.inl (0, [none, some 1, some 2, some 3, some 4, some 5, some 6, some 7, some 8, some 9, some 10, some 11, some 12]), .inr (200, false), .inr (200, false), .inr (200, false), .inr (200, false), .inr (200, false), .inr (200, false), .inr (200, false), .inr (200, false), .inr (200, false), .inr (200, false), .inr (200, false), .inr (200, false), .inl (0, [none, some 14, some 15, some 16, some 17, some 18, some 19, some 20, some 21, some 22, some 23, some 24, some 25]), .inr (200, false), .inr (200, false), .inr (200, false), .inr (200, false), .inr (200, false), .inr (200, false), .inr (200, false), .inr (200, false), .inr (200, false), .inr (200, false), .inr (200, false), .inr (200, false)]
def shN : List cr_Shp := []
def Y_X0_has : cr_Y := (yX0_has, cX0_has, 2, (some .boolean), shC, 0, 0)
def Y_X0_add : cr_Y := (yX0_add, cX0_add, 3, (some .int), shC, 0, 0)
def Y_X0_describe : cr_Y := (yX0_describe, cX0_describe, 5, none, shC, 0, 0)
def Y_X0_arrive : cr_Y := (yX0_arrive, cX0_arrive, 3, none, shC, 1, 22)
def Y_X0_waitAgain : cr_Y := (yX0_waitAgain, cX0_waitAgain, 3, none, shC, 0, 0)
def Y_X0_putBack : cr_Y := (yX0_putBack, cX0_putBack, 3, none, shC, 0, 0)
def Y_X0_start : cr_Y := (yX0_start, cX0_start, 5, none, shC, 0, 0)
def Y_X0_ringBackDue : cr_Y := (yX0_ringBackDue, cX0_ringBackDue, 3, none, shC, 1, 22)
def Y_X0_loseImpatient : cr_Y := (yX0_loseImpatient, cX0_loseImpatient, 3, none, shC, 0, 0)
def Y_X0_nextChange : cr_Y := (yX0_nextChange, cX0_nextChange, 6, (some .int), shC, 1, 21)
def Y_X0_firstWith : cr_Y := (yX0_firstWith, cX0_firstWith, 3, (some .int), shC, 0, 0)
def Y_X0_givenWithin : cr_Y := (yX0_givenWithin, cX0_givenWithin, 4, (some .int), shC, 0, 0)
def Y_X0_countDoing : cr_Y := (yX0_countDoing, cX0_countDoing, 4, (some .int), shC, 0, 0)
def Y_X0_copyFrom : cr_Y := (yX0_copyFrom, cX0_copyFrom, 2, none, shCC, 1, 18)
def Y_X1_copyFrom : cr_Y := (yX1_copyFrom, cX1_copyFrom, 2, none, shFF, 2, 39)
def Y_X1_goOn : cr_Y := (yX1_goOn, cX1_goOn, 4, (some .int), shF, 6, 136)
def Y_X1_ticksTillOn : cr_Y := (yX1_ticksTillOn, cX1_ticksTillOn, 3, (some .int), shF, 6, 136)
def Y_X1_passTick : cr_Y := (yX1_passTick, cX1_passTick, 2, (some .int), shF, 5, 115)
def Y_X1_skipQuietTicks : cr_Y := (yX1_skipQuietTicks, cX1_skipQuietTicks, 4, (some .int), shF, 3, 68)
def Y_X1_nextChange : cr_Y := (yX1_nextChange, cX1_nextChange, 3, (some .int), shF, 2, 46)
def Y_X1_endCalls : cr_Y := (yX1_endCalls, cX1_endCalls, 3, (some .int), shF, 3, 66)
def Y_X1_endWith : cr_Y := (yX1_endWith, cX1_endWith, 2, none, shF, 2, 45)
def Y_X1_giveAll : cr_Y := (yX1_giveAll, cX1_giveAll, 4, none, shF, 4, 92)
def Y_X1_give : cr_Y := (yX1_give, cX1_give, 4, none, shF, 2, 46)
def Y_X1_nextToGive : cr_Y := (yX1_nextToGive, cX1_nextToGive, 5, (some .int), shF, 2, 46)
def Y_X1_rankOf : cr_Y := (yX1_rankOf, cX1_rankOf, 2, (some .int), shF, 0, 0)
def Y_X1_countTakers : cr_Y := (yX1_countTakers, cX1_countTakers, 4, (some .int), shF, 1, 23)
def Y_X1_isTakeable : cr_Y := (yX1_isTakeable, cX1_isTakeable, 3, (some .boolean), shF, 1, 23)
def Y_X1_isKeptForOwn : cr_Y := (yX1_isKeptForOwn, cX1_isKeptForOwn, 2, (some .boolean), shF, 0, 0)
def Y_X1_bestHelper : cr_Y := (yX1_bestHelper, cX1_bestHelper, 7, (some .int), shF, 3, 66)
def Y_X1_hindrance : cr_Y := (yX1_hindrance, cX1_hindrance, 3, (some .int), shF, 2, 46)
def Y_X2_has : cr_Y := (yX2_has, cX2_has, 2, (some .boolean), shH, 0, 0)
def Y_X2_add : cr_Y := (yX2_add, cX2_add, 3, (some .int), shH, 0, 0)
def Y_X2_become : cr_Y := (yX2_become, cX2_become, 4, none, shH, 0, 0)
def Y_X2_gradeFor : cr_Y := (yX2_gradeFor, cX2_gradeFor, 3, (some .int), shH, 0, 0)
def Y_X2_setGrade : cr_Y := (yX2_setGrade, cX2_setGrade, 4, none, shH, 0, 0)
def Y_X2_sortsOf : cr_Y := (yX2_sortsOf, cX2_sortsOf, 2, (some .int), shH, 1, 20)
def Y_X2_canTake : cr_Y := (yX2_canTake, cX2_canTake, 4, (some .boolean), shH, 0, 0)
def Y_X2_someCanTake : cr_Y := (yX2_someCanTake, cX2_someCanTake, 4, (some .boolean), shH, 1, 23)
def Y_X2_someInHasGrade : cr_Y := (yX2_someInHasGrade, cX2_someInHasGrade, 3, (some .boolean), shH, 1, 22)
def Y_X2_isBetter : cr_Y := (yX2_isBetter, cX2_isBetter, 6, (some .boolean), shH, 2, 41)
def Y_X2_take : cr_Y := (yX2_take, cX2_take, 4, none, shH, 1, 23)
def Y_X2_letGo : cr_Y := (yX2_letGo, cX2_letGo, 3, none, shH, 1, 23)
def Y_X2_addBusyTicks : cr_Y := (yX2_addBusyTicks, cX2_addBusyTicks, 3, none, shH, 0, 0)
def Y_X2_endBreaks : cr_Y := (yX2_endBreaks, cX2_endBreaks, 3, none, shH, 1, 23)
def Y_X2_nextBreakOver : cr_Y := (yX2_nextBreakOver, cX2_nextBreakOver, 3, (some .int), shH, 1, 21)
def Y_X2_countFree : cr_Y := (yX2_countFree, cX2_countFree, 3, (some .int), shH, 0, 0)
def Y_X2_copyFrom : cr_Y := (yX2_copyFrom, cX2_copyFrom, 2, none, shHH, 1, 18)
def Y_X3_plan : cr_Y := (yX3_plan, cX3_plan, 7, (some .int), shS, 1, 21)
def Y_X4_helper : cr_Y := (yX4_helper, cX4_helper, 2, (some .int), shR, 1, 22)
def Y_X4_grade : cr_Y := (yX4_grade, cX4_grade, 6, (some .int), shR, 1, 23)
def Y_X4_duty : cr_Y := (yX4_duty, cX4_duty, 2, (some .int), shR, 1, 23)
def Y_X4_out : cr_Y := (yX4_out, cX4_out, 3, (some .int), shR, 1, 23)
def Y_X4_pause : cr_Y := (yX4_pause, cX4_pause, 4, (some .int), shR, 1, 23)
def Y_X4_call : cr_Y := (yX4_call, cX4_call, 8, (some .int), shR, 2, 44)
def Y_X4_rule : cr_Y := (yX4_rule, cX4_rule, 3, (some .int), shR, 1, 22)
def Y_X4_prefer : cr_Y := (yX4_prefer, cX4_prefer, 4, (some .int), shR, 1, 22)
def Y_X4_ring : cr_Y := (yX4_ring, cX4_ring, 4, (some .int), shR, 2, 42)
def Y_X4_pass : cr_Y := (yX4_pass, cX4_pass, 6, (some .int), shR, 2, 45)
def Y_X4_leave : cr_Y := (yX4_leave, cX4_leave, 3, (some .int), shR, 1, 22)
def Y_X4_urge : cr_Y := (yX4_urge, cX4_urge, 4, (some .int), shR, 2, 42)
def Y_X4_ticks : cr_Y := (yX4_ticks, cX4_ticks, 3, (some .int), shR, 7, 159)
def Y_X4_wait : cr_Y := (yX4_wait, cX4_wait, 3, (some .int), shR, 7, 158)
def Y_X4_who : cr_Y := (yX4_who, cX4_who, 3, (some .int), shR, 6, 136)
def Y_X4_why : cr_Y := (yX4_why, cX4_why, 3, (some .int), shR, 6, 136)
def Y_X4_within : cr_Y := (yX4_within, cX4_within, 2, (some .int), shR, 1, 23)
def Y_X4_loss : cr_Y := (yX4_loss, cX4_loss, 6, (some .int), shR, 1, 27)
def Y_X4_wanted : cr_Y := (yX4_wanted, cX4_wanted, 6, (some .int), shR, 1, 27)
def Y_X4_want : cr_Y := (yX4_want, cX4_want, 5, (some .int), shR, 1, 22)
def Y_X4_cover : cr_Y := (yX4_cover, cX4_cover, 3, (some .int), shR, 2, 47)
def Y_X4_begins : cr_Y := (yX4_begins, cX4_begins, 2, (some .int), shR, 1, 22)
def Y_X4_helperOf : cr_Y := (yX4_helperOf, cX4_helperOf, 4, (some .int), shR, 1, 22)
def Y_X4_callOf : cr_Y := (yX4_callOf, cX4_callOf, 4, (some .int), shR, 1, 22)
def Y_X4_count : cr_Y := (yX4_count, cX4_count, 2, (some .int), shR, 1, 23)
def Y_X4_refuse : cr_Y := (yX4_refuse, cX4_refuse, 3, (some .int), shR, 0, 0)
def Y_X4_notWaiting : cr_Y := (yX4_notWaiting, cX4_notWaiting, 2, (some .int), shR, 1, 21)
def Y_X4_helperIfGivenNow : cr_Y := (yX4_helperIfGivenNow, cX4_helperIfGivenNow, 2, (some .int), shR, 5, 115)
def Y_X4_isSort : cr_Y := (yX4_isSort, cX4_isSort, 1, (some .boolean), shN, 0, 0)
def Y_X4_isQuarter : cr_Y := (yX4_isQuarter, cX4_isQuarter, 1, (some .boolean), shN, 0, 0)
def Y_X4_outside : cr_Y := (yX4_outside, cX4_outside, 3, (some .int), shN, 0, 0)
def Y_X4_lossWithOneMore : cr_Y := (yX4_lossWithOneMore, cX4_lossWithOneMore, 8, (some .long), shN, 0, 0)
def Y_X5_refuse : cr_Y := (yX5_refuse, cX5_refuse, 2, (some .int), shM, 0, 0)
def Y_X5_isIn : cr_Y := (yX5_isIn, cX5_isIn, 2, (some .boolean), shN, 0, 0)
def Y_X5_gradeOf : cr_Y := (yX5_gradeOf, cX5_gradeOf, 3, (some .int), shM, 0, 0)
def Y_X5_helper : cr_Y := (yX5_helper, cX5_helper, 3, (some .int), shM, 1, 21)
def Y_X5_grade : cr_Y := (yX5_grade, cX5_grade, 5, (some .int), shM, 1, 22)
def Y_X5_becomes : cr_Y := (yX5_becomes, cX5_becomes, 3, none, shM, 0, 0)
def Y_X5_duty : cr_Y := (yX5_duty, cX5_duty, 2, (some .int), shM, 1, 22)
def Y_X5_out : cr_Y := (yX5_out, cX5_out, 2, (some .int), shM, 1, 22)
def Y_X5_pause : cr_Y := (yX5_pause, cX5_pause, 3, (some .int), shM, 1, 22)
def Y_X5_call : cr_Y := (yX5_call, cX5_call, 7, (some .int), shM, 1, 21)
def Y_X5_rule : cr_Y := (yX5_rule, cX5_rule, 3, (some .int), shM, 1, 21)
def Y_X5_prefer : cr_Y := (yX5_prefer, cX5_prefer, 3, (some .int), shM, 1, 21)
def Y_X5_ring : cr_Y := (yX5_ring, cX5_ring, 3, (some .int), shM, 1, 21)
def Y_X5_loses : cr_Y := (yX5_loses, cX5_loses, 2, none, shM, 1, 22)
def Y_X5_pass : cr_Y := (yX5_pass, cX5_pass, 5, (some .int), shM, 2, 43)
def Y_X5_leave : cr_Y := (yX5_leave, cX5_leave, 2, (some .int), shM, 1, 21)
def Y_X5_urge : cr_Y := (yX5_urge, cX5_urge, 2, (some .int), shM, 1, 21)
def Y_X5_waitedOf : cr_Y := (yX5_waitedOf, cX5_waitedOf, 2, (some .int), shM, 0, 0)
def Y_X5_hasRoom : cr_Y := (yX5_hasRoom, cX5_hasRoom, 2, (some .boolean), shM, 0, 0)
def Y_X5_may : cr_Y := (yX5_may, cX5_may, 3, (some .boolean), shM, 1, 22)
def Y_X5_isTakeable : cr_Y := (yX5_isTakeable, cX5_isTakeable, 4, (some .boolean), shM, 2, 44)
def Y_X5_freeFor : cr_Y := (yX5_freeFor, cX5_freeFor, 4, (some .int), shM, 1, 22)
def Y_X5_rankOf : cr_Y := (yX5_rankOf, cX5_rankOf, 2, (some .int), shM, 2, 45)
def Y_X5_nextCall : cr_Y := (yX5_nextCall, cX5_nextCall, 3, (some .int), shM, 3, 67)
def Y_X5_sortsOf : cr_Y := (yX5_sortsOf, cX5_sortsOf, 4, (some .int), shM, 1, 22)
def Y_X5_isAhead : cr_Y := (yX5_isAhead, cX5_isAhead, 4, (some .boolean), shM, 2, 45)
def Y_X5_helperFor : cr_Y := (yX5_helperFor, cX5_helperFor, 4, (some .int), shM, 3, 68)
def Y_X5_give : cr_Y := (yX5_give, cX5_give, 3, none, shM, 4, 91)
def Y_X5_goesOn : cr_Y := (yX5_goesOn, cX5_goesOn, 3, (some .int), shM, 5, 113)
def Y_X5_ticks : cr_Y := (yX5_ticks, cX5_ticks, 4, (some .int), shM, 6, 135)
def Y_X5_keep : cr_Y := (yX5_keep, cX5_keep, 2, none, shM, 0, 0)
def Y_X5_putBack : cr_Y := (yX5_putBack, cX5_putBack, 2, none, shM, 0, 0)
def Y_X5_wait : cr_Y := (yX5_wait, cX5_wait, 4, (some .int), shM, 6, 135)
def Y_X5_whoOf : cr_Y := (yX5_whoOf, cX5_whoOf, 3, (some .int), shM, 5, 113)
def Y_X5_who : cr_Y := (yX5_who, cX5_who, 2, (some .int), shM, 6, 135)
def Y_X5_why : cr_Y := (yX5_why, cX5_why, 5, (some .int), shM, 6, 135)
def Y_X5_within : cr_Y := (yX5_within, cX5_within, 4, (some .int), shM, 1, 21)
def Y_X5_lossOf : cr_Y := (yX5_lossOf, cX5_lossOf, 5, (some .int), shN, 0, 0)
def Y_X5_loss : cr_Y := (yX5_loss, cX5_loss, 3, (some .int), shM, 1, 24)
def Y_X5_wanted : cr_Y := (yX5_wanted, cX5_wanted, 4, (some .int), shM, 1, 24)
def Y_X5_want : cr_Y := (yX5_want, cX5_want, 4, (some .int), shM, 1, 21)
def Y_X5_cover : cr_Y := (yX5_cover, cX5_cover, 6, (some .int), shM, 1, 21)
def Y_X5_begins : cr_Y := (yX5_begins, cX5_begins, 2, (some .int), shM, 1, 21)
def Y_X5_helperOf : cr_Y := (yX5_helperOf, cX5_helperOf, 4, (some .int), shM, 1, 22)
def Y_X5_callOf : cr_Y := (yX5_callOf, cX5_callOf, 3, (some .int), shM, 1, 21)
def Y_X5_inState : cr_Y := (yX5_inState, cX5_inState, 4, (some .int), shM, 0, 0)
def Y_X5_count : cr_Y := (yX5_count, cX5_count, 4, (some .int), shM, 1, 23)
def Y_J_bit : cr_Y := (yJ_bit, cJ_bit, 1, (some .int), shN, 0, 0)
theorem f_4_10 : cr_fl RX4 10 4 0 := ⟨_, _, _, rfl, iX4, by decide, cr_in (i := 213) (by decide +kernel) rfl⟩
theorem f_4_16 : cr_fl RX4 16 4 1 := ⟨_, _, _, rfl, iX4, by decide, cr_in (i := 214) (by decide +kernel) rfl⟩
theorem f_4_22 : cr_fl RX4 22 4 2 := ⟨_, _, _, rfl, iX4, by decide, cr_in (i := 215) (by decide +kernel) rfl⟩
theorem f_4_26 : cr_fl RX4 26 4 3 := ⟨_, _, _, rfl, iX4, by decide, cr_in (i := 216) (by decide +kernel) rfl⟩
theorem f_4_34 : cr_fl RX4 34 1 0 := ⟨_, _, _, rfl, iX1, by decide, cr_in (i := 172) (by decide +kernel) rfl⟩
theorem f_4_38 : cr_fl RX4 38 2 0 := ⟨_, _, _, rfl, iX2, by decide, cr_in (i := 66) (by decide +kernel) rfl⟩
theorem f_4_44 : cr_fl RX4 44 1 4 := ⟨_, _, _, rfl, iX1, by decide, cr_in (i := 178) (by decide +kernel) rfl⟩
theorem f_4_69 : cr_fl RX4 69 2 2 := ⟨_, _, _, rfl, iX2, by decide, cr_in (i := 70) (by decide +kernel) rfl⟩
theorem f_4_75 : cr_fl RX4 75 2 8 := ⟨_, _, _, rfl, iX2, by decide, cr_in (i := 82) (by decide +kernel) rfl⟩
theorem f_4_78 : cr_fl RX4 78 1 1 := ⟨_, _, _, rfl, iX1, by decide, cr_in (i := 174) (by decide +kernel) rfl⟩
theorem f_4_82 : cr_fl RX4 82 0 0 := ⟨_, _, _, rfl, iX0, by decide, cr_in (i := 111) (by decide +kernel) rfl⟩
theorem f_4_94 : cr_fl RX4 94 1 5 := ⟨_, _, _, rfl, iX1, by decide, cr_in (i := 180) (by decide +kernel) rfl⟩
theorem f_4_97 : cr_fl RX4 97 1 6 := ⟨_, _, _, rfl, iX1, by decide, cr_in (i := 182) (by decide +kernel) rfl⟩
theorem f_4_107 : cr_fl RX4 107 0 1 := ⟨_, _, _, rfl, iX0, by decide, cr_in (i := 114) (by decide +kernel) rfl⟩
theorem f_4_108 : cr_fl RX4 108 0 9 := ⟨_, _, _, rfl, iX0, by decide, cr_in (i := 137) (by decide +kernel) rfl⟩
theorem f_4_111 : cr_fl RX4 111 0 6 := ⟨_, _, _, rfl, iX0, by decide, cr_in (i := 128) (by decide +kernel) rfl⟩
theorem f_4_120 : cr_fl RX4 120 0 2 := ⟨_, _, _, rfl, iX0, by decide, cr_in (i := 117) (by decide +kernel) rfl⟩
theorem f_4_123 : cr_fl RX4 123 0 3 := ⟨_, _, _, rfl, iX0, by decide, cr_in (i := 119) (by decide +kernel) rfl⟩
theorem f_4_155 : cr_fl RX4 155 3 0 := ⟨_, _, _, rfl, iX3, by decide, cr_in (i := 205) (by decide +kernel) rfl⟩
theorem f_4_161 : cr_fl RX4 161 3 1 := ⟨_, _, _, rfl, iX3, by decide, cr_in (i := 207) (by decide +kernel) rfl⟩
theorem f_4_164 : cr_fl RX4 164 2 4 := ⟨_, _, _, rfl, iX2, by decide, cr_in (i := 74) (by decide +kernel) rfl⟩
theorem f_4_170 : cr_fl RX4 170 2 3 := ⟨_, _, _, rfl, iX2, by decide, cr_in (i := 72) (by decide +kernel) rfl⟩
theorem f_4_173 : cr_fl RX4 173 2 6 := ⟨_, _, _, rfl, iX2, by decide, cr_in (i := 78) (by decide +kernel) rfl⟩
theorem f_4_176 : cr_fl RX4 176 2 7 := ⟨_, _, _, rfl, iX2, by decide, cr_in (i := 80) (by decide +kernel) rfl⟩
theorem f_4_179 : cr_fl RX4 179 0 4 := ⟨_, _, _, rfl, iX0, by decide, cr_in (i := 123) (by decide +kernel) rfl⟩
theorem f_4_182 : cr_fl RX4 182 0 5 := ⟨_, _, _, rfl, iX0, by decide, cr_in (i := 126) (by decide +kernel) rfl⟩
theorem f_4_185 : cr_fl RX4 185 0 7 := ⟨_, _, _, rfl, iX0, by decide, cr_in (i := 131) (by decide +kernel) rfl⟩
theorem f_4_188 : cr_fl RX4 188 0 8 := ⟨_, _, _, rfl, iX0, by decide, cr_in (i := 134) (by decide +kernel) rfl⟩
theorem f_4_189 : cr_fl RX4 189 0 12 := ⟨_, _, _, rfl, iX0, by decide, cr_in (i := 143) (by decide +kernel) rfl⟩
theorem f_4_192 : cr_fl RX4 192 0 10 := ⟨_, _, _, rfl, iX0, by decide, cr_in (i := 140) (by decide +kernel) rfl⟩
theorem f_0_9 : cr_fl RX0 9 0 1 := ⟨_, _, _, rfl, iX0, by decide, cr_in (i := 112) (by decide +kernel) rfl⟩
theorem f_0_15 : cr_fl RX0 15 0 2 := ⟨_, _, _, rfl, iX0, by decide, cr_in (i := 115) (by decide +kernel) rfl⟩
theorem f_0_18 : cr_fl RX0 18 0 3 := ⟨_, _, _, rfl, iX0, by decide, cr_in (i := 118) (by decide +kernel) rfl⟩
theorem f_0_21 : cr_fl RX0 21 0 4 := ⟨_, _, _, rfl, iX0, by decide, cr_in (i := 121) (by decide +kernel) rfl⟩
theorem f_0_24 : cr_fl RX0 24 0 5 := ⟨_, _, _, rfl, iX0, by decide, cr_in (i := 124) (by decide +kernel) rfl⟩
theorem f_0_27 : cr_fl RX0 27 0 6 := ⟨_, _, _, rfl, iX0, by decide, cr_in (i := 127) (by decide +kernel) rfl⟩
theorem f_0_30 : cr_fl RX0 30 0 7 := ⟨_, _, _, rfl, iX0, by decide, cr_in (i := 130) (by decide +kernel) rfl⟩
theorem f_0_33 : cr_fl RX0 33 0 8 := ⟨_, _, _, rfl, iX0, by decide, cr_in (i := 132) (by decide +kernel) rfl⟩
theorem f_0_36 : cr_fl RX0 36 0 9 := ⟨_, _, _, rfl, iX0, by decide, cr_in (i := 135) (by decide +kernel) rfl⟩
theorem f_0_39 : cr_fl RX0 39 0 10 := ⟨_, _, _, rfl, iX0, by decide, cr_in (i := 138) (by decide +kernel) rfl⟩
theorem f_0_42 : cr_fl RX0 42 0 11 := ⟨_, _, _, rfl, iX0, by decide, cr_in (i := 141) (by decide +kernel) rfl⟩
theorem f_0_45 : cr_fl RX0 45 0 12 := ⟨_, _, _, rfl, iX0, by decide, cr_in (i := 142) (by decide +kernel) rfl⟩
theorem f_0_48 : cr_fl RX0 48 0 0 := ⟨_, _, _, rfl, iX0, by decide, cr_in (i := 109) (by decide +kernel) rfl⟩
theorem f_1_12 : cr_fl RX1 12 1 0 := ⟨_, _, _, rfl, iX1, by decide, cr_in (i := 171) (by decide +kernel) rfl⟩
theorem f_1_21 : cr_fl RX1 21 1 1 := ⟨_, _, _, rfl, iX1, by decide, cr_in (i := 173) (by decide +kernel) rfl⟩
theorem f_1_25 : cr_fl RX1 25 1 2 := ⟨_, _, _, rfl, iX1, by decide, cr_in (i := 175) (by decide +kernel) rfl⟩
theorem f_1_29 : cr_fl RX1 29 1 3 := ⟨_, _, _, rfl, iX1, by decide, cr_in (i := 176) (by decide +kernel) rfl⟩
theorem f_1_32 : cr_fl RX1 32 1 6 := ⟨_, _, _, rfl, iX1, by decide, cr_in (i := 181) (by decide +kernel) rfl⟩
theorem f_1_43 : cr_fl RX1 43 1 4 := ⟨_, _, _, rfl, iX1, by decide, cr_in (i := 177) (by decide +kernel) rfl⟩
theorem f_1_46 : cr_fl RX1 46 1 5 := ⟨_, _, _, rfl, iX1, by decide, cr_in (i := 179) (by decide +kernel) rfl⟩
theorem f_1_63 : cr_fl RX1 63 0 1 := ⟨_, _, _, rfl, iX0, by decide, cr_in (i := 113) (by decide +kernel) rfl⟩
theorem f_1_94 : cr_fl RX1 94 0 0 := ⟨_, _, _, rfl, iX0, by decide, cr_in (i := 110) (by decide +kernel) rfl⟩
theorem f_1_100 : cr_fl RX1 100 0 10 := ⟨_, _, _, rfl, iX0, by decide, cr_in (i := 139) (by decide +kernel) rfl⟩
theorem f_1_103 : cr_fl RX1 103 0 9 := ⟨_, _, _, rfl, iX0, by decide, cr_in (i := 136) (by decide +kernel) rfl⟩
theorem f_1_113 : cr_fl RX1 113 2 6 := ⟨_, _, _, rfl, iX2, by decide, cr_in (i := 77) (by decide +kernel) rfl⟩
theorem f_1_130 : cr_fl RX1 130 0 5 := ⟨_, _, _, rfl, iX0, by decide, cr_in (i := 125) (by decide +kernel) rfl⟩
theorem f_1_133 : cr_fl RX1 133 0 4 := ⟨_, _, _, rfl, iX0, by decide, cr_in (i := 122) (by decide +kernel) rfl⟩
theorem f_1_143 : cr_fl RX1 143 0 2 := ⟨_, _, _, rfl, iX0, by decide, cr_in (i := 116) (by decide +kernel) rfl⟩
theorem f_1_159 : cr_fl RX1 159 0 8 := ⟨_, _, _, rfl, iX0, by decide, cr_in (i := 133) (by decide +kernel) rfl⟩
theorem f_1_162 : cr_fl RX1 162 0 6 := ⟨_, _, _, rfl, iX0, by decide, cr_in (i := 129) (by decide +kernel) rfl⟩
theorem f_1_165 : cr_fl RX1 165 2 0 := ⟨_, _, _, rfl, iX2, by decide, cr_in (i := 67) (by decide +kernel) rfl⟩
theorem f_1_173 : cr_fl RX1 173 0 3 := ⟨_, _, _, rfl, iX0, by decide, cr_in (i := 120) (by decide +kernel) rfl⟩
theorem f_2_9 : cr_fl RX2 9 2 1 := ⟨_, _, _, rfl, iX2, by decide, cr_in (i := 68) (by decide +kernel) rfl⟩
theorem f_2_15 : cr_fl RX2 15 2 2 := ⟨_, _, _, rfl, iX2, by decide, cr_in (i := 69) (by decide +kernel) rfl⟩
theorem f_2_18 : cr_fl RX2 18 2 3 := ⟨_, _, _, rfl, iX2, by decide, cr_in (i := 71) (by decide +kernel) rfl⟩
theorem f_2_21 : cr_fl RX2 21 2 4 := ⟨_, _, _, rfl, iX2, by decide, cr_in (i := 73) (by decide +kernel) rfl⟩
theorem f_2_24 : cr_fl RX2 24 2 5 := ⟨_, _, _, rfl, iX2, by decide, cr_in (i := 75) (by decide +kernel) rfl⟩
theorem f_2_27 : cr_fl RX2 27 2 6 := ⟨_, _, _, rfl, iX2, by decide, cr_in (i := 76) (by decide +kernel) rfl⟩
theorem f_2_30 : cr_fl RX2 30 2 7 := ⟨_, _, _, rfl, iX2, by decide, cr_in (i := 79) (by decide +kernel) rfl⟩
theorem f_2_33 : cr_fl RX2 33 2 8 := ⟨_, _, _, rfl, iX2, by decide, cr_in (i := 81) (by decide +kernel) rfl⟩
theorem f_2_36 : cr_fl RX2 36 2 0 := ⟨_, _, _, rfl, iX2, by decide, cr_in (i := 65) (by decide +kernel) rfl⟩
theorem f_3_9 : cr_fl RX3 9 3 0 := ⟨_, _, _, rfl, iX3, by decide, cr_in (i := 204) (by decide +kernel) rfl⟩
theorem f_3_15 : cr_fl RX3 15 3 1 := ⟨_, _, _, rfl, iX3, by decide, cr_in (i := 206) (by decide +kernel) rfl⟩
theorem f_5_7 : cr_fl RX5 7 5 0 := ⟨_, _, _, rfl, iX5, by decide, cr_in (i := 587) (by decide +kernel) rfl⟩
theorem f_5_13 : cr_fl RX5 13 5 1 := ⟨_, _, _, rfl, iX5, by decide, cr_in (i := 588) (by decide +kernel) rfl⟩
theorem f_5_16 : cr_fl RX5 16 5 2 := ⟨_, _, _, rfl, iX5, by decide, cr_in (i := 589) (by decide +kernel) rfl⟩
theorem f_5_19 : cr_fl RX5 19 5 7 := ⟨_, _, _, rfl, iX5, by decide, cr_in (i := 594) (by decide +kernel) rfl⟩
theorem f_5_23 : cr_fl RX5 23 5 8 := ⟨_, _, _, rfl, iX5, by decide, cr_in (i := 595) (by decide +kernel) rfl⟩
theorem f_5_26 : cr_fl RX5 26 5 9 := ⟨_, _, _, rfl, iX5, by decide, cr_in (i := 596) (by decide +kernel) rfl⟩
theorem f_5_29 : cr_fl RX5 29 5 10 := ⟨_, _, _, rfl, iX5, by decide, cr_in (i := 597) (by decide +kernel) rfl⟩
theorem f_5_32 : cr_fl RX5 32 5 11 := ⟨_, _, _, rfl, iX5, by decide, cr_in (i := 598) (by decide +kernel) rfl⟩
theorem f_5_35 : cr_fl RX5 35 5 12 := ⟨_, _, _, rfl, iX5, by decide, cr_in (i := 599) (by decide +kernel) rfl⟩
theorem f_5_38 : cr_fl RX5 38 5 13 := ⟨_, _, _, rfl, iX5, by decide, cr_in (i := 600) (by decide +kernel) rfl⟩
theorem f_5_41 : cr_fl RX5 41 5 14 := ⟨_, _, _, rfl, iX5, by decide, cr_in (i := 601) (by decide +kernel) rfl⟩
theorem f_5_44 : cr_fl RX5 44 5 15 := ⟨_, _, _, rfl, iX5, by decide, cr_in (i := 602) (by decide +kernel) rfl⟩
theorem f_5_47 : cr_fl RX5 47 5 16 := ⟨_, _, _, rfl, iX5, by decide, cr_in (i := 603) (by decide +kernel) rfl⟩
theorem f_5_50 : cr_fl RX5 50 5 17 := ⟨_, _, _, rfl, iX5, by decide, cr_in (i := 604) (by decide +kernel) rfl⟩
theorem f_5_53 : cr_fl RX5 53 5 18 := ⟨_, _, _, rfl, iX5, by decide, cr_in (i := 605) (by decide +kernel) rfl⟩
theorem f_5_56 : cr_fl RX5 56 5 19 := ⟨_, _, _, rfl, iX5, by decide, cr_in (i := 606) (by decide +kernel) rfl⟩
theorem f_5_59 : cr_fl RX5 59 5 20 := ⟨_, _, _, rfl, iX5, by decide, cr_in (i := 607) (by decide +kernel) rfl⟩
theorem f_5_62 : cr_fl RX5 62 5 21 := ⟨_, _, _, rfl, iX5, by decide, cr_in (i := 608) (by decide +kernel) rfl⟩
theorem f_5_65 : cr_fl RX5 65 5 22 := ⟨_, _, _, rfl, iX5, by decide, cr_in (i := 609) (by decide +kernel) rfl⟩
theorem f_5_68 : cr_fl RX5 68 5 23 := ⟨_, _, _, rfl, iX5, by decide, cr_in (i := 610) (by decide +kernel) rfl⟩
theorem f_5_71 : cr_fl RX5 71 5 24 := ⟨_, _, _, rfl, iX5, by decide, cr_in (i := 611) (by decide +kernel) rfl⟩
theorem f_5_74 : cr_fl RX5 74 5 25 := ⟨_, _, _, rfl, iX5, by decide, cr_in (i := 612) (by decide +kernel) rfl⟩
theorem f_5_77 : cr_fl RX5 77 5 26 := ⟨_, _, _, rfl, iX5, by decide, cr_in (i := 613) (by decide +kernel) rfl⟩
theorem f_5_80 : cr_fl RX5 80 5 27 := ⟨_, _, _, rfl, iX5, by decide, cr_in (i := 614) (by decide +kernel) rfl⟩
theorem f_5_83 : cr_fl RX5 83 5 28 := ⟨_, _, _, rfl, iX5, by decide, cr_in (i := 615) (by decide +kernel) rfl⟩
theorem f_5_87 : cr_fl RX5 87 5 29 := ⟨_, _, _, rfl, iX5, by decide, cr_in (i := 616) (by decide +kernel) rfl⟩
theorem f_5_90 : cr_fl RX5 90 5 31 := ⟨_, _, _, rfl, iX5, by decide, cr_in (i := 618) (by decide +kernel) rfl⟩
theorem f_5_93 : cr_fl RX5 93 5 32 := ⟨_, _, _, rfl, iX5, by decide, cr_in (i := 619) (by decide +kernel) rfl⟩
theorem f_5_96 : cr_fl RX5 96 5 33 := ⟨_, _, _, rfl, iX5, by decide, cr_in (i := 620) (by decide +kernel) rfl⟩
theorem f_5_99 : cr_fl RX5 99 5 34 := ⟨_, _, _, rfl, iX5, by decide, cr_in (i := 621) (by decide +kernel) rfl⟩
theorem f_5_102 : cr_fl RX5 102 5 35 := ⟨_, _, _, rfl, iX5, by decide, cr_in (i := 622) (by decide +kernel) rfl⟩
theorem f_5_105 : cr_fl RX5 105 5 36 := ⟨_, _, _, rfl, iX5, by decide, cr_in (i := 623) (by decide +kernel) rfl⟩
theorem f_5_108 : cr_fl RX5 108 5 37 := ⟨_, _, _, rfl, iX5, by decide, cr_in (i := 624) (by decide +kernel) rfl⟩
theorem f_5_111 : cr_fl RX5 111 5 38 := ⟨_, _, _, rfl, iX5, by decide, cr_in (i := 625) (by decide +kernel) rfl⟩
theorem f_5_114 : cr_fl RX5 114 5 39 := ⟨_, _, _, rfl, iX5, by decide, cr_in (i := 626) (by decide +kernel) rfl⟩
theorem f_5_117 : cr_fl RX5 117 5 40 := ⟨_, _, _, rfl, iX5, by decide, cr_in (i := 627) (by decide +kernel) rfl⟩
theorem f_5_124 : cr_fl RX5 124 5 4 := ⟨_, _, _, rfl, iX5, by decide, cr_in (i := 591) (by decide +kernel) rfl⟩
theorem f_5_127 : cr_fl RX5 127 5 3 := ⟨_, _, _, rfl, iX5, by decide, cr_in (i := 590) (by decide +kernel) rfl⟩
theorem f_5_142 : cr_fl RX5 142 5 5 := ⟨_, _, _, rfl, iX5, by decide, cr_in (i := 592) (by decide +kernel) rfl⟩
theorem f_5_145 : cr_fl RX5 145 5 6 := ⟨_, _, _, rfl, iX5, by decide, cr_in (i := 593) (by decide +kernel) rfl⟩
theorem f_5_191 : cr_fl RX5 191 5 30 := ⟨_, _, _, rfl, iX5, by decide, cr_in (i := 617) (by decide +kernel) rfl⟩
theorem p_0_0 : cr_fp 0 0 := fun C T N h => by cases h; exact ⟨⟨_, tyX0_ok⟩, nmX0, rfl, by decide +kernel⟩
theorem p_1_4 : cr_fp 1 4 := fun C T N h => by cases h; exact ⟨⟨_, tyX1_ok⟩, nmX1, rfl, by decide +kernel⟩
theorem p_1_5 : cr_fp 1 5 := fun C T N h => by cases h; exact ⟨⟨_, tyX1_ok⟩, nmX1, rfl, by decide +kernel⟩
theorem p_1_6 : cr_fp 1 6 := fun C T N h => by cases h; exact ⟨⟨_, tyX1_ok⟩, nmX1, rfl, by decide +kernel⟩
theorem p_2_0 : cr_fp 2 0 := fun C T N h => by cases h; exact ⟨⟨_, tyX2_ok⟩, nmX2, rfl, by decide +kernel⟩
theorem p_5_3 : cr_fp 5 3 := fun C T N h => by cases h; exact ⟨⟨_, tyX5_ok⟩, nmX5, rfl, by decide +kernel⟩
theorem p_5_4 : cr_fp 5 4 := fun C T N h => by cases h; exact ⟨⟨_, tyX5_ok⟩, nmX5, rfl, by decide +kernel⟩
theorem p_5_5 : cr_fp 5 5 := fun C T N h => by cases h; exact ⟨⟨_, tyX5_ok⟩, nmX5, rfl, by decide +kernel⟩
theorem p_5_6 : cr_fp 5 6 := fun C T N h => by cases h; exact ⟨⟨_, tyX5_ok⟩, nmX5, rfl, by decide +kernel⟩
theorem p_5_7 : cr_fp 5 7 := fun C T N h => by cases h; exact ⟨⟨_, tyX5_ok⟩, nmX5, rfl, by decide +kernel⟩
theorem p_5_30 : cr_fp 5 30 := fun C T N h => by cases h; exact ⟨⟨_, tyX5_ok⟩, nmX5, rfl, by decide +kernel⟩
theorem cd_X4_begins : Cond.code (cr_nm Y_X4_begins) (cr_by Y_X4_begins) (cr_ml Y_X4_begins) (cr_rt Y_X4_begins) ∈ cr_tb := cr_in (i := 556) (by decide +kernel) rfl
theorem cv_X4_begins : cr_csV Y_X4_begins := ⟨cr_in (i := 554) (by decide +kernel) rfl, cr_in (i := 555) (by decide +kernel) rfl⟩
theorem rc_X4_begins : cr_rc Y_X4_begins := ⟨4, _, _, rfl, rfl, rfl⟩
theorem cd_X4_call : Cond.code (cr_nm Y_X4_call) (cr_by Y_X4_call) (cr_ml Y_X4_call) (cr_rt Y_X4_call) ∈ cr_tb := cr_in (i := 279) (by decide +kernel) rfl
theorem cv_X4_call : cr_csV Y_X4_call := ⟨cr_in (i := 277) (by decide +kernel) rfl, cr_in (i := 278) (by decide +kernel) rfl⟩
theorem rc_X4_call : cr_rc Y_X4_call := ⟨4, _, _, rfl, rfl, rfl⟩
theorem cd_X4_callOf : Cond.code (cr_nm Y_X4_callOf) (cr_by Y_X4_callOf) (cr_ml Y_X4_callOf) (cr_rt Y_X4_callOf) ∈ cr_tb := cr_in (i := 568) (by decide +kernel) rfl
theorem cv_X4_callOf : cr_csV Y_X4_callOf := ⟨cr_in (i := 566) (by decide +kernel) rfl, cr_in (i := 567) (by decide +kernel) rfl⟩
theorem rc_X4_callOf : cr_rc Y_X4_callOf := ⟨4, _, _, rfl, rfl, rfl⟩
theorem cd_X4_count : Cond.code (cr_nm Y_X4_count) (cr_by Y_X4_count) (cr_ml Y_X4_count) (cr_rt Y_X4_count) ∈ cr_tb := cr_in (i := 572) (by decide +kernel) rfl
theorem cv_X4_count : cr_csV Y_X4_count := ⟨cr_in (i := 570) (by decide +kernel) rfl, cr_in (i := 571) (by decide +kernel) rfl⟩
theorem rc_X4_count : cr_rc Y_X4_count := ⟨4, _, _, rfl, rfl, rfl⟩
theorem cd_X4_cover : Cond.code (cr_nm Y_X4_cover) (cr_by Y_X4_cover) (cr_ml Y_X4_cover) (cr_rt Y_X4_cover) ∈ cr_tb := cr_in (i := 546) (by decide +kernel) rfl
theorem cv_X4_cover : cr_csV Y_X4_cover := ⟨cr_in (i := 544) (by decide +kernel) rfl, cr_in (i := 545) (by decide +kernel) rfl⟩
theorem rc_X4_cover : cr_rc Y_X4_cover := ⟨4, _, _, rfl, rfl, rfl⟩
theorem cd_X4_duty : Cond.code (cr_nm Y_X4_duty) (cr_by Y_X4_duty) (cr_ml Y_X4_duty) (cr_rt Y_X4_duty) ∈ cr_tb := cr_in (i := 263) (by decide +kernel) rfl
theorem cv_X4_duty : cr_csV Y_X4_duty := ⟨cr_in (i := 261) (by decide +kernel) rfl, cr_in (i := 262) (by decide +kernel) rfl⟩
theorem rc_X4_duty : cr_rc Y_X4_duty := ⟨4, _, _, rfl, rfl, rfl⟩
theorem cd_X4_grade : Cond.code (cr_nm Y_X4_grade) (cr_by Y_X4_grade) (cr_ml Y_X4_grade) (cr_rt Y_X4_grade) ∈ cr_tb := cr_in (i := 241) (by decide +kernel) rfl
theorem cv_X4_grade : cr_csV Y_X4_grade := ⟨cr_in (i := 239) (by decide +kernel) rfl, cr_in (i := 240) (by decide +kernel) rfl⟩
theorem rc_X4_grade : cr_rc Y_X4_grade := ⟨4, _, _, rfl, rfl, rfl⟩
theorem cd_X4_helper : Cond.code (cr_nm Y_X4_helper) (cr_by Y_X4_helper) (cr_ml Y_X4_helper) (cr_rt Y_X4_helper) ∈ cr_tb := cr_in (i := 229) (by decide +kernel) rfl
theorem cv_X4_helper : cr_csV Y_X4_helper := ⟨cr_in (i := 227) (by decide +kernel) rfl, cr_in (i := 228) (by decide +kernel) rfl⟩
theorem rc_X4_helper : cr_rc Y_X4_helper := ⟨4, _, _, rfl, rfl, rfl⟩
theorem cd_X4_helperIfGivenNow : Cond.code (cr_nm Y_X4_helperIfGivenNow) (cr_by Y_X4_helperIfGivenNow) (cr_ml Y_X4_helperIfGivenNow) (cr_rt Y_X4_helperIfGivenNow) ∈ cr_tb := cr_in (i := 495) (by decide +kernel) rfl
theorem cv_X4_helperIfGivenNow : cr_csV Y_X4_helperIfGivenNow := ⟨cr_in (i := 494) (by decide +kernel) rfl, cr_in (i := 14) (by decide +kernel) rfl⟩
theorem rc_X4_helperIfGivenNow : cr_rc Y_X4_helperIfGivenNow := ⟨4, _, _, rfl, rfl, rfl⟩
theorem cd_X4_helperOf : Cond.code (cr_nm Y_X4_helperOf) (cr_by Y_X4_helperOf) (cr_ml Y_X4_helperOf) (cr_rt Y_X4_helperOf) ∈ cr_tb := cr_in (i := 560) (by decide +kernel) rfl
theorem cv_X4_helperOf : cr_csV Y_X4_helperOf := ⟨cr_in (i := 558) (by decide +kernel) rfl, cr_in (i := 559) (by decide +kernel) rfl⟩
theorem rc_X4_helperOf : cr_rc Y_X4_helperOf := ⟨4, _, _, rfl, rfl, rfl⟩
theorem cd_X4_isQuarter : Cond.code (cr_nm Y_X4_isQuarter) (cr_by Y_X4_isQuarter) (cr_ml Y_X4_isQuarter) (cr_rt Y_X4_isQuarter) ∈ cr_tb := cr_in (i := 542) (by decide +kernel) rfl
theorem st_X4_isQuarter : Cond.static (cr_nm Y_X4_isQuarter) ∈ cr_tb := cr_in (i := 541) (by decide +kernel) rfl
theorem cd_X4_isSort : Cond.code (cr_nm Y_X4_isSort) (cr_by Y_X4_isSort) (cr_ml Y_X4_isSort) (cr_rt Y_X4_isSort) ∈ cr_tb := cr_in (i := 248) (by decide +kernel) rfl
theorem st_X4_isSort : Cond.static (cr_nm Y_X4_isSort) ∈ cr_tb := cr_in (i := 247) (by decide +kernel) rfl
theorem cd_X4_leave : Cond.code (cr_nm Y_X4_leave) (cr_by Y_X4_leave) (cr_ml Y_X4_leave) (cr_rt Y_X4_leave) ∈ cr_tb := cr_in (i := 334) (by decide +kernel) rfl
theorem cv_X4_leave : cr_csV Y_X4_leave := ⟨cr_in (i := 332) (by decide +kernel) rfl, cr_in (i := 333) (by decide +kernel) rfl⟩
theorem rc_X4_leave : cr_rc Y_X4_leave := ⟨4, _, _, rfl, rfl, rfl⟩
theorem cd_X4_loss : Cond.code (cr_nm Y_X4_loss) (cr_by Y_X4_loss) (cr_ml Y_X4_loss) (cr_rt Y_X4_loss) ∈ cr_tb := cr_in (i := 525) (by decide +kernel) rfl
theorem cv_X4_loss : cr_csV Y_X4_loss := ⟨cr_in (i := 523) (by decide +kernel) rfl, cr_in (i := 524) (by decide +kernel) rfl⟩
theorem rc_X4_loss : cr_rc Y_X4_loss := ⟨4, _, _, rfl, rfl, rfl⟩
theorem cd_X4_lossWithOneMore : Cond.code (cr_nm Y_X4_lossWithOneMore) (cr_by Y_X4_lossWithOneMore) (cr_ml Y_X4_lossWithOneMore) (cr_rt Y_X4_lossWithOneMore) ∈ cr_tb := cr_in (i := 529) (by decide +kernel) rfl
theorem st_X4_lossWithOneMore : Cond.static (cr_nm Y_X4_lossWithOneMore) ∈ cr_tb := cr_in (i := 528) (by decide +kernel) rfl
theorem cd_X4_notWaiting : Cond.code (cr_nm Y_X4_notWaiting) (cr_by Y_X4_notWaiting) (cr_ml Y_X4_notWaiting) (cr_rt Y_X4_notWaiting) ∈ cr_tb := cr_in (i := 311) (by decide +kernel) rfl
theorem cv_X4_notWaiting : cr_csV Y_X4_notWaiting := ⟨cr_in (i := 310) (by decide +kernel) rfl, cr_in (i := 1) (by decide +kernel) rfl⟩
theorem rc_X4_notWaiting : cr_rc Y_X4_notWaiting := ⟨4, _, _, rfl, rfl, rfl⟩
theorem cd_X4_out : Cond.code (cr_nm Y_X4_out) (cr_by Y_X4_out) (cr_ml Y_X4_out) (cr_rt Y_X4_out) ∈ cr_tb := cr_in (i := 271) (by decide +kernel) rfl
theorem cv_X4_out : cr_csV Y_X4_out := ⟨cr_in (i := 269) (by decide +kernel) rfl, cr_in (i := 270) (by decide +kernel) rfl⟩
theorem rc_X4_out : cr_rc Y_X4_out := ⟨4, _, _, rfl, rfl, rfl⟩
theorem cd_X4_outside : Cond.code (cr_nm Y_X4_outside) (cr_by Y_X4_outside) (cr_ml Y_X4_outside) (cr_rt Y_X4_outside) ∈ cr_tb := cr_in (i := 251) (by decide +kernel) rfl
theorem st_X4_outside : Cond.static (cr_nm Y_X4_outside) ∈ cr_tb := cr_in (i := 250) (by decide +kernel) rfl
theorem cd_X4_pass : Cond.code (cr_nm Y_X4_pass) (cr_by Y_X4_pass) (cr_ml Y_X4_pass) (cr_rt Y_X4_pass) ∈ cr_tb := cr_in (i := 323) (by decide +kernel) rfl
theorem cv_X4_pass : cr_csV Y_X4_pass := ⟨cr_in (i := 321) (by decide +kernel) rfl, cr_in (i := 322) (by decide +kernel) rfl⟩
theorem rc_X4_pass : cr_rc Y_X4_pass := ⟨4, _, _, rfl, rfl, rfl⟩
theorem cd_X4_pause : Cond.code (cr_nm Y_X4_pause) (cr_by Y_X4_pause) (cr_ml Y_X4_pause) (cr_rt Y_X4_pause) ∈ cr_tb := cr_in (i := 275) (by decide +kernel) rfl
theorem cv_X4_pause : cr_csV Y_X4_pause := ⟨cr_in (i := 273) (by decide +kernel) rfl, cr_in (i := 274) (by decide +kernel) rfl⟩
theorem rc_X4_pause : cr_rc Y_X4_pause := ⟨4, _, _, rfl, rfl, rfl⟩
theorem cd_X4_prefer : Cond.code (cr_nm Y_X4_prefer) (cr_by Y_X4_prefer) (cr_ml Y_X4_prefer) (cr_rt Y_X4_prefer) ∈ cr_tb := cr_in (i := 303) (by decide +kernel) rfl
theorem cv_X4_prefer : cr_csV Y_X4_prefer := ⟨cr_in (i := 301) (by decide +kernel) rfl, cr_in (i := 302) (by decide +kernel) rfl⟩
theorem rc_X4_prefer : cr_rc Y_X4_prefer := ⟨4, _, _, rfl, rfl, rfl⟩
theorem cd_X4_refuse : Cond.code (cr_nm Y_X4_refuse) (cr_by Y_X4_refuse) (cr_ml Y_X4_refuse) (cr_rt Y_X4_refuse) ∈ cr_tb := cr_in (i := 233) (by decide +kernel) rfl
theorem cv_X4_refuse : cr_csV Y_X4_refuse := ⟨cr_in (i := 232) (by decide +kernel) rfl, cr_in (i := 0) (by decide +kernel) rfl⟩
theorem rc_X4_refuse : cr_rc Y_X4_refuse := ⟨4, _, _, rfl, rfl, rfl⟩
theorem cd_X4_ring : Cond.code (cr_nm Y_X4_ring) (cr_by Y_X4_ring) (cr_ml Y_X4_ring) (cr_rt Y_X4_ring) ∈ cr_tb := cr_in (i := 307) (by decide +kernel) rfl
theorem cv_X4_ring : cr_csV Y_X4_ring := ⟨cr_in (i := 305) (by decide +kernel) rfl, cr_in (i := 306) (by decide +kernel) rfl⟩
theorem rc_X4_ring : cr_rc Y_X4_ring := ⟨4, _, _, rfl, rfl, rfl⟩
theorem cd_X4_rule : Cond.code (cr_nm Y_X4_rule) (cr_by Y_X4_rule) (cr_ml Y_X4_rule) (cr_rt Y_X4_rule) ∈ cr_tb := cr_in (i := 299) (by decide +kernel) rfl
theorem cv_X4_rule : cr_csV Y_X4_rule := ⟨cr_in (i := 297) (by decide +kernel) rfl, cr_in (i := 298) (by decide +kernel) rfl⟩
theorem rc_X4_rule : cr_rc Y_X4_rule := ⟨4, _, _, rfl, rfl, rfl⟩
theorem cd_X4_ticks : Cond.code (cr_nm Y_X4_ticks) (cr_by Y_X4_ticks) (cr_ml Y_X4_ticks) (cr_rt Y_X4_ticks) ∈ cr_tb := cr_in (i := 342) (by decide +kernel) rfl
theorem cv_X4_ticks : cr_csV Y_X4_ticks := ⟨cr_in (i := 340) (by decide +kernel) rfl, cr_in (i := 341) (by decide +kernel) rfl⟩
theorem rc_X4_ticks : cr_rc Y_X4_ticks := ⟨4, _, _, rfl, rfl, rfl⟩
theorem cd_X4_urge : Cond.code (cr_nm Y_X4_urge) (cr_by Y_X4_urge) (cr_ml Y_X4_urge) (cr_rt Y_X4_urge) ∈ cr_tb := cr_in (i := 338) (by decide +kernel) rfl
theorem cv_X4_urge : cr_csV Y_X4_urge := ⟨cr_in (i := 336) (by decide +kernel) rfl, cr_in (i := 337) (by decide +kernel) rfl⟩
theorem rc_X4_urge : cr_rc Y_X4_urge := ⟨4, _, _, rfl, rfl, rfl⟩
theorem cd_X4_wait : Cond.code (cr_nm Y_X4_wait) (cr_by Y_X4_wait) (cr_ml Y_X4_wait) (cr_rt Y_X4_wait) ∈ cr_tb := cr_in (i := 467) (by decide +kernel) rfl
theorem cv_X4_wait : cr_csV Y_X4_wait := ⟨cr_in (i := 465) (by decide +kernel) rfl, cr_in (i := 466) (by decide +kernel) rfl⟩
theorem rc_X4_wait : cr_rc Y_X4_wait := ⟨4, _, _, rfl, rfl, rfl⟩
theorem cd_X4_want : Cond.code (cr_nm Y_X4_want) (cr_by Y_X4_want) (cr_ml Y_X4_want) (cr_rt Y_X4_want) ∈ cr_tb := cr_in (i := 539) (by decide +kernel) rfl
theorem cv_X4_want : cr_csV Y_X4_want := ⟨cr_in (i := 537) (by decide +kernel) rfl, cr_in (i := 538) (by decide +kernel) rfl⟩
theorem rc_X4_want : cr_rc Y_X4_want := ⟨4, _, _, rfl, rfl, rfl⟩
theorem cd_X4_wanted : Cond.code (cr_nm Y_X4_wanted) (cr_by Y_X4_wanted) (cr_ml Y_X4_wanted) (cr_rt Y_X4_wanted) ∈ cr_tb := cr_in (i := 534) (by decide +kernel) rfl
theorem cv_X4_wanted : cr_csV Y_X4_wanted := ⟨cr_in (i := 532) (by decide +kernel) rfl, cr_in (i := 533) (by decide +kernel) rfl⟩
theorem rc_X4_wanted : cr_rc Y_X4_wanted := ⟨4, _, _, rfl, rfl, rfl⟩
theorem cd_X4_who : Cond.code (cr_nm Y_X4_who) (cr_by Y_X4_who) (cr_ml Y_X4_who) (cr_rt Y_X4_who) ∈ cr_tb := cr_in (i := 491) (by decide +kernel) rfl
theorem cv_X4_who : cr_csV Y_X4_who := ⟨cr_in (i := 489) (by decide +kernel) rfl, cr_in (i := 490) (by decide +kernel) rfl⟩
theorem rc_X4_who : cr_rc Y_X4_who := ⟨4, _, _, rfl, rfl, rfl⟩
theorem cd_X4_why : Cond.code (cr_nm Y_X4_why) (cr_by Y_X4_why) (cr_ml Y_X4_why) (cr_rt Y_X4_why) ∈ cr_tb := cr_in (i := 500) (by decide +kernel) rfl
theorem cv_X4_why : cr_csV Y_X4_why := ⟨cr_in (i := 498) (by decide +kernel) rfl, cr_in (i := 499) (by decide +kernel) rfl⟩
theorem rc_X4_why : cr_rc Y_X4_why := ⟨4, _, _, rfl, rfl, rfl⟩
theorem cd_X4_within : Cond.code (cr_nm Y_X4_within) (cr_by Y_X4_within) (cr_ml Y_X4_within) (cr_rt Y_X4_within) ∈ cr_tb := cr_in (i := 517) (by decide +kernel) rfl
theorem cv_X4_within : cr_csV Y_X4_within := ⟨cr_in (i := 515) (by decide +kernel) rfl, cr_in (i := 516) (by decide +kernel) rfl⟩
theorem rc_X4_within : cr_rc Y_X4_within := ⟨4, _, _, rfl, rfl, rfl⟩
theorem cd_X0_add : Cond.code (cr_nm Y_X0_add) (cr_by Y_X0_add) (cr_ml Y_X0_add) (cr_rt Y_X0_add) ∈ cr_tb := cr_in (i := 283) (by decide +kernel) rfl
theorem cv_X0_add : cr_csV Y_X0_add := ⟨cr_in (i := 281) (by decide +kernel) rfl, cr_in (i := 282) (by decide +kernel) rfl⟩
theorem rc_X0_add : cr_rc Y_X0_add := ⟨0, _, _, rfl, rfl, rfl⟩
theorem cd_X0_arrive : Cond.code (cr_nm Y_X0_arrive) (cr_by Y_X0_arrive) (cr_ml Y_X0_arrive) (cr_rt Y_X0_arrive) ∈ cr_tb := cr_in (i := 291) (by decide +kernel) rfl
theorem cv_X0_arrive : cr_csV Y_X0_arrive := ⟨cr_in (i := 289) (by decide +kernel) rfl, cr_in (i := 290) (by decide +kernel) rfl⟩
theorem rc_X0_arrive : cr_rc Y_X0_arrive := ⟨0, _, _, rfl, rfl, rfl⟩
theorem cd_X0_copyFrom : Cond.code (cr_nm Y_X0_copyFrom) (cr_by Y_X0_copyFrom) (cr_ml Y_X0_copyFrom) (cr_rt Y_X0_copyFrom) ∈ cr_tb := cr_in (i := 482) (by decide +kernel) rfl
theorem cv_X0_copyFrom : cr_csV Y_X0_copyFrom := ⟨cr_in (i := 480) (by decide +kernel) rfl, cr_in (i := 481) (by decide +kernel) rfl⟩
theorem rc_X0_copyFrom : cr_rc Y_X0_copyFrom := ⟨0, _, _, rfl, rfl, rfl⟩
theorem cd_X0_countDoing : Cond.code (cr_nm Y_X0_countDoing) (cr_by Y_X0_countDoing) (cr_ml Y_X0_countDoing) (cr_rt Y_X0_countDoing) ∈ cr_tb := cr_in (i := 576) (by decide +kernel) rfl
theorem cv_X0_countDoing : cr_csV Y_X0_countDoing := ⟨cr_in (i := 574) (by decide +kernel) rfl, cr_in (i := 575) (by decide +kernel) rfl⟩
theorem rc_X0_countDoing : cr_rc Y_X0_countDoing := ⟨0, _, _, rfl, rfl, rfl⟩
theorem cd_X0_describe : Cond.code (cr_nm Y_X0_describe) (cr_by Y_X0_describe) (cr_ml Y_X0_describe) (cr_rt Y_X0_describe) ∈ cr_tb := cr_in (i := 287) (by decide +kernel) rfl
theorem cv_X0_describe : cr_csV Y_X0_describe := ⟨cr_in (i := 285) (by decide +kernel) rfl, cr_in (i := 286) (by decide +kernel) rfl⟩
theorem rc_X0_describe : cr_rc Y_X0_describe := ⟨0, _, _, rfl, rfl, rfl⟩
theorem cd_X0_firstWith : Cond.code (cr_nm Y_X0_firstWith) (cr_by Y_X0_firstWith) (cr_ml Y_X0_firstWith) (cr_rt Y_X0_firstWith) ∈ cr_tb := cr_in (i := 564) (by decide +kernel) rfl
theorem cv_X0_firstWith : cr_csV Y_X0_firstWith := ⟨cr_in (i := 562) (by decide +kernel) rfl, cr_in (i := 563) (by decide +kernel) rfl⟩
theorem rc_X0_firstWith : cr_rc Y_X0_firstWith := ⟨0, _, _, rfl, rfl, rfl⟩
theorem cd_X0_givenWithin : Cond.code (cr_nm Y_X0_givenWithin) (cr_by Y_X0_givenWithin) (cr_ml Y_X0_givenWithin) (cr_rt Y_X0_givenWithin) ∈ cr_tb := cr_in (i := 521) (by decide +kernel) rfl
theorem cv_X0_givenWithin : cr_csV Y_X0_givenWithin := ⟨cr_in (i := 519) (by decide +kernel) rfl, cr_in (i := 520) (by decide +kernel) rfl⟩
theorem rc_X0_givenWithin : cr_rc Y_X0_givenWithin := ⟨0, _, _, rfl, rfl, rfl⟩
theorem cd_X0_has : Cond.code (cr_nm Y_X0_has) (cr_by Y_X0_has) (cr_ml Y_X0_has) (cr_rt Y_X0_has) ∈ cr_tb := cr_in (i := 315) (by decide +kernel) rfl
theorem cv_X0_has : cr_csV Y_X0_has := ⟨cr_in (i := 313) (by decide +kernel) rfl, cr_in (i := 314) (by decide +kernel) rfl⟩
theorem rc_X0_has : cr_rc Y_X0_has := ⟨0, _, _, rfl, rfl, rfl⟩
theorem cd_X0_loseImpatient : Cond.code (cr_nm Y_X0_loseImpatient) (cr_by Y_X0_loseImpatient) (cr_ml Y_X0_loseImpatient) (cr_rt Y_X0_loseImpatient) ∈ cr_tb := cr_in (i := 376) (by decide +kernel) rfl
theorem cv_X0_loseImpatient : cr_csV Y_X0_loseImpatient := ⟨cr_in (i := 374) (by decide +kernel) rfl, cr_in (i := 375) (by decide +kernel) rfl⟩
theorem rc_X0_loseImpatient : cr_rc Y_X0_loseImpatient := ⟨0, _, _, rfl, rfl, rfl⟩
theorem cd_X0_nextChange : Cond.code (cr_nm Y_X0_nextChange) (cr_by Y_X0_nextChange) (cr_ml Y_X0_nextChange) (cr_rt Y_X0_nextChange) ∈ cr_tb := cr_in (i := 457) (by decide +kernel) rfl
theorem cv_X0_nextChange : cr_csV Y_X0_nextChange := ⟨cr_in (i := 455) (by decide +kernel) rfl, cr_in (i := 456) (by decide +kernel) rfl⟩
theorem rc_X0_nextChange : cr_rc Y_X0_nextChange := ⟨0, _, _, rfl, rfl, rfl⟩
theorem cd_X0_putBack : Cond.code (cr_nm Y_X0_putBack) (cr_by Y_X0_putBack) (cr_ml Y_X0_putBack) (cr_rt Y_X0_putBack) ∈ cr_tb := cr_in (i := 319) (by decide +kernel) rfl
theorem cv_X0_putBack : cr_csV Y_X0_putBack := ⟨cr_in (i := 317) (by decide +kernel) rfl, cr_in (i := 318) (by decide +kernel) rfl⟩
theorem rc_X0_putBack : cr_rc Y_X0_putBack := ⟨0, _, _, rfl, rfl, rfl⟩
theorem cd_X0_ringBackDue : Cond.code (cr_nm Y_X0_ringBackDue) (cr_by Y_X0_ringBackDue) (cr_ml Y_X0_ringBackDue) (cr_rt Y_X0_ringBackDue) ∈ cr_tb := cr_in (i := 372) (by decide +kernel) rfl
theorem cv_X0_ringBackDue : cr_csV Y_X0_ringBackDue := ⟨cr_in (i := 370) (by decide +kernel) rfl, cr_in (i := 371) (by decide +kernel) rfl⟩
theorem rc_X0_ringBackDue : cr_rc Y_X0_ringBackDue := ⟨0, _, _, rfl, rfl, rfl⟩
theorem cd_X0_start : Cond.code (cr_nm Y_X0_start) (cr_by Y_X0_start) (cr_ml Y_X0_start) (cr_rt Y_X0_start) ∈ cr_tb := cr_in (i := 433) (by decide +kernel) rfl
theorem cv_X0_start : cr_csV Y_X0_start := ⟨cr_in (i := 431) (by decide +kernel) rfl, cr_in (i := 432) (by decide +kernel) rfl⟩
theorem rc_X0_start : cr_rc Y_X0_start := ⟨0, _, _, rfl, rfl, rfl⟩
theorem cd_X0_waitAgain : Cond.code (cr_nm Y_X0_waitAgain) (cr_by Y_X0_waitAgain) (cr_ml Y_X0_waitAgain) (cr_rt Y_X0_waitAgain) ∈ cr_tb := cr_in (i := 295) (by decide +kernel) rfl
theorem cv_X0_waitAgain : cr_csV Y_X0_waitAgain := ⟨cr_in (i := 293) (by decide +kernel) rfl, cr_in (i := 294) (by decide +kernel) rfl⟩
theorem rc_X0_waitAgain : cr_rc Y_X0_waitAgain := ⟨0, _, _, rfl, rfl, rfl⟩
theorem cd_X1_bestHelper : Cond.code (cr_nm Y_X1_bestHelper) (cr_by Y_X1_bestHelper) (cr_ml Y_X1_bestHelper) (cr_rt Y_X1_bestHelper) ∈ cr_tb := cr_in (i := 409) (by decide +kernel) rfl
theorem cv_X1_bestHelper : cr_csV Y_X1_bestHelper := ⟨cr_in (i := 408) (by decide +kernel) rfl, cr_in (i := 10) (by decide +kernel) rfl⟩
theorem rc_X1_bestHelper : cr_rc Y_X1_bestHelper := ⟨1, _, _, rfl, rfl, rfl⟩
theorem cd_X1_copyFrom : Cond.code (cr_nm Y_X1_copyFrom) (cr_by Y_X1_copyFrom) (cr_ml Y_X1_copyFrom) (cr_rt Y_X1_copyFrom) ∈ cr_tb := cr_in (i := 471) (by decide +kernel) rfl
theorem cv_X1_copyFrom : cr_csV Y_X1_copyFrom := ⟨cr_in (i := 469) (by decide +kernel) rfl, cr_in (i := 470) (by decide +kernel) rfl⟩
theorem rc_X1_copyFrom : cr_rc Y_X1_copyFrom := ⟨1, _, _, rfl, rfl, rfl⟩
theorem cd_X1_countTakers : Cond.code (cr_nm Y_X1_countTakers) (cr_by Y_X1_countTakers) (cr_ml Y_X1_countTakers) (cr_rt Y_X1_countTakers) ∈ cr_tb := cr_in (i := 388) (by decide +kernel) rfl
theorem cv_X1_countTakers : cr_csV Y_X1_countTakers := ⟨cr_in (i := 387) (by decide +kernel) rfl, cr_in (i := 6) (by decide +kernel) rfl⟩
theorem rc_X1_countTakers : cr_rc Y_X1_countTakers := ⟨1, _, _, rfl, rfl, rfl⟩
theorem cd_X1_endCalls : Cond.code (cr_nm Y_X1_endCalls) (cr_by Y_X1_endCalls) (cr_ml Y_X1_endCalls) (cr_rt Y_X1_endCalls) ∈ cr_tb := cr_in (i := 358) (by decide +kernel) rfl
theorem cv_X1_endCalls : cr_csV Y_X1_endCalls := ⟨cr_in (i := 357) (by decide +kernel) rfl, cr_in (i := 3) (by decide +kernel) rfl⟩
theorem rc_X1_endCalls : cr_rc Y_X1_endCalls := ⟨1, _, _, rfl, rfl, rfl⟩
theorem cd_X1_endWith : Cond.code (cr_nm Y_X1_endWith) (cr_by Y_X1_endWith) (cr_ml Y_X1_endWith) (cr_rt Y_X1_endWith) ∈ cr_tb := cr_in (i := 362) (by decide +kernel) rfl
theorem cv_X1_endWith : cr_csV Y_X1_endWith := ⟨cr_in (i := 361) (by decide +kernel) rfl, cr_in (i := 4) (by decide +kernel) rfl⟩
theorem rc_X1_endWith : cr_rc Y_X1_endWith := ⟨1, _, _, rfl, rfl, rfl⟩
theorem cd_X1_give : Cond.code (cr_nm Y_X1_give) (cr_by Y_X1_give) (cr_ml Y_X1_give) (cr_rt Y_X1_give) ∈ cr_tb := cr_in (i := 428) (by decide +kernel) rfl
theorem cv_X1_give : cr_csV Y_X1_give := ⟨cr_in (i := 427) (by decide +kernel) rfl, cr_in (i := 11) (by decide +kernel) rfl⟩
theorem rc_X1_give : cr_rc Y_X1_give := ⟨1, _, _, rfl, rfl, rfl⟩
theorem cd_X1_giveAll : Cond.code (cr_nm Y_X1_giveAll) (cr_by Y_X1_giveAll) (cr_ml Y_X1_giveAll) (cr_rt Y_X1_giveAll) ∈ cr_tb := cr_in (i := 380) (by decide +kernel) rfl
theorem cv_X1_giveAll : cr_csV Y_X1_giveAll := ⟨cr_in (i := 378) (by decide +kernel) rfl, cr_in (i := 379) (by decide +kernel) rfl⟩
theorem rc_X1_giveAll : cr_rc Y_X1_giveAll := ⟨1, _, _, rfl, rfl, rfl⟩
theorem cd_X1_goOn : Cond.code (cr_nm Y_X1_goOn) (cr_by Y_X1_goOn) (cr_ml Y_X1_goOn) (cr_rt Y_X1_goOn) ∈ cr_tb := cr_in (i := 346) (by decide +kernel) rfl
theorem cv_X1_goOn : cr_csV Y_X1_goOn := ⟨cr_in (i := 344) (by decide +kernel) rfl, cr_in (i := 345) (by decide +kernel) rfl⟩
theorem rc_X1_goOn : cr_rc Y_X1_goOn := ⟨1, _, _, rfl, rfl, rfl⟩
theorem cd_X1_hindrance : Cond.code (cr_nm Y_X1_hindrance) (cr_by Y_X1_hindrance) (cr_ml Y_X1_hindrance) (cr_rt Y_X1_hindrance) ∈ cr_tb := cr_in (i := 504) (by decide +kernel) rfl
theorem cv_X1_hindrance : cr_csV Y_X1_hindrance := ⟨cr_in (i := 502) (by decide +kernel) rfl, cr_in (i := 503) (by decide +kernel) rfl⟩
theorem rc_X1_hindrance : cr_rc Y_X1_hindrance := ⟨1, _, _, rfl, rfl, rfl⟩
theorem cd_X1_isKeptForOwn : Cond.code (cr_nm Y_X1_isKeptForOwn) (cr_by Y_X1_isKeptForOwn) (cr_ml Y_X1_isKeptForOwn) (cr_rt Y_X1_isKeptForOwn) ∈ cr_tb := cr_in (i := 400) (by decide +kernel) rfl
theorem cv_X1_isKeptForOwn : cr_csV Y_X1_isKeptForOwn := ⟨cr_in (i := 399) (by decide +kernel) rfl, cr_in (i := 8) (by decide +kernel) rfl⟩
theorem rc_X1_isKeptForOwn : cr_rc Y_X1_isKeptForOwn := ⟨1, _, _, rfl, rfl, rfl⟩
theorem cd_X1_isTakeable : Cond.code (cr_nm Y_X1_isTakeable) (cr_by Y_X1_isTakeable) (cr_ml Y_X1_isTakeable) (cr_rt Y_X1_isTakeable) ∈ cr_tb := cr_in (i := 396) (by decide +kernel) rfl
theorem cv_X1_isTakeable : cr_csV Y_X1_isTakeable := ⟨cr_in (i := 395) (by decide +kernel) rfl, cr_in (i := 7) (by decide +kernel) rfl⟩
theorem rc_X1_isTakeable : cr_rc Y_X1_isTakeable := ⟨1, _, _, rfl, rfl, rfl⟩
theorem cd_X1_nextChange : Cond.code (cr_nm Y_X1_nextChange) (cr_by Y_X1_nextChange) (cr_ml Y_X1_nextChange) (cr_rt Y_X1_nextChange) ∈ cr_tb := cr_in (i := 445) (by decide +kernel) rfl
theorem cv_X1_nextChange : cr_csV Y_X1_nextChange := ⟨cr_in (i := 444) (by decide +kernel) rfl, cr_in (i := 13) (by decide +kernel) rfl⟩
theorem rc_X1_nextChange : cr_rc Y_X1_nextChange := ⟨1, _, _, rfl, rfl, rfl⟩
theorem cd_X1_nextToGive : Cond.code (cr_nm Y_X1_nextToGive) (cr_by Y_X1_nextToGive) (cr_ml Y_X1_nextToGive) (cr_rt Y_X1_nextToGive) ∈ cr_tb := cr_in (i := 384) (by decide +kernel) rfl
theorem cv_X1_nextToGive : cr_csV Y_X1_nextToGive := ⟨cr_in (i := 383) (by decide +kernel) rfl, cr_in (i := 5) (by decide +kernel) rfl⟩
theorem rc_X1_nextToGive : cr_rc Y_X1_nextToGive := ⟨1, _, _, rfl, rfl, rfl⟩
theorem cd_X1_passTick : Cond.code (cr_nm Y_X1_passTick) (cr_by Y_X1_passTick) (cr_ml Y_X1_passTick) (cr_rt Y_X1_passTick) ∈ cr_tb := cr_in (i := 350) (by decide +kernel) rfl
theorem cv_X1_passTick : cr_csV Y_X1_passTick := ⟨cr_in (i := 349) (by decide +kernel) rfl, cr_in (i := 2) (by decide +kernel) rfl⟩
theorem rc_X1_passTick : cr_rc Y_X1_passTick := ⟨1, _, _, rfl, rfl, rfl⟩
theorem cd_X1_rankOf : Cond.code (cr_nm Y_X1_rankOf) (cr_by Y_X1_rankOf) (cr_ml Y_X1_rankOf) (cr_rt Y_X1_rankOf) ∈ cr_tb := cr_in (i := 404) (by decide +kernel) rfl
theorem cv_X1_rankOf : cr_csV Y_X1_rankOf := ⟨cr_in (i := 403) (by decide +kernel) rfl, cr_in (i := 9) (by decide +kernel) rfl⟩
theorem rc_X1_rankOf : cr_rc Y_X1_rankOf := ⟨1, _, _, rfl, rfl, rfl⟩
theorem cd_X1_skipQuietTicks : Cond.code (cr_nm Y_X1_skipQuietTicks) (cr_by Y_X1_skipQuietTicks) (cr_ml Y_X1_skipQuietTicks) (cr_rt Y_X1_skipQuietTicks) ∈ cr_tb := cr_in (i := 441) (by decide +kernel) rfl
theorem cv_X1_skipQuietTicks : cr_csV Y_X1_skipQuietTicks := ⟨cr_in (i := 440) (by decide +kernel) rfl, cr_in (i := 12) (by decide +kernel) rfl⟩
theorem rc_X1_skipQuietTicks : cr_rc Y_X1_skipQuietTicks := ⟨1, _, _, rfl, rfl, rfl⟩
theorem cd_X1_ticksTillOn : Cond.code (cr_nm Y_X1_ticksTillOn) (cr_by Y_X1_ticksTillOn) (cr_ml Y_X1_ticksTillOn) (cr_rt Y_X1_ticksTillOn) ∈ cr_tb := cr_in (i := 487) (by decide +kernel) rfl
theorem cv_X1_ticksTillOn : cr_csV Y_X1_ticksTillOn := ⟨cr_in (i := 485) (by decide +kernel) rfl, cr_in (i := 486) (by decide +kernel) rfl⟩
theorem rc_X1_ticksTillOn : cr_rc Y_X1_ticksTillOn := ⟨1, _, _, rfl, rfl, rfl⟩
theorem cd_X2_add : Cond.code (cr_nm Y_X2_add) (cr_by Y_X2_add) (cr_ml Y_X2_add) (cr_rt Y_X2_add) ∈ cr_tb := cr_in (i := 237) (by decide +kernel) rfl
theorem cv_X2_add : cr_csV Y_X2_add := ⟨cr_in (i := 235) (by decide +kernel) rfl, cr_in (i := 236) (by decide +kernel) rfl⟩
theorem rc_X2_add : cr_rc Y_X2_add := ⟨2, _, _, rfl, rfl, rfl⟩
theorem cd_X2_addBusyTicks : Cond.code (cr_nm Y_X2_addBusyTicks) (cr_by Y_X2_addBusyTicks) (cr_ml Y_X2_addBusyTicks) (cr_rt Y_X2_addBusyTicks) ∈ cr_tb := cr_in (i := 354) (by decide +kernel) rfl
theorem cv_X2_addBusyTicks : cr_csV Y_X2_addBusyTicks := ⟨cr_in (i := 352) (by decide +kernel) rfl, cr_in (i := 353) (by decide +kernel) rfl⟩
theorem rc_X2_addBusyTicks : cr_rc Y_X2_addBusyTicks := ⟨2, _, _, rfl, rfl, rfl⟩
theorem cd_X2_become : Cond.code (cr_nm Y_X2_become) (cr_by Y_X2_become) (cr_ml Y_X2_become) (cr_rt Y_X2_become) ∈ cr_tb := cr_in (i := 267) (by decide +kernel) rfl
theorem cv_X2_become : cr_csV Y_X2_become := ⟨cr_in (i := 265) (by decide +kernel) rfl, cr_in (i := 266) (by decide +kernel) rfl⟩
theorem rc_X2_become : cr_rc Y_X2_become := ⟨2, _, _, rfl, rfl, rfl⟩
theorem cd_X2_canTake : Cond.code (cr_nm Y_X2_canTake) (cr_by Y_X2_canTake) (cr_ml Y_X2_canTake) (cr_rt Y_X2_canTake) ∈ cr_tb := cr_in (i := 392) (by decide +kernel) rfl
theorem cv_X2_canTake : cr_csV Y_X2_canTake := ⟨cr_in (i := 390) (by decide +kernel) rfl, cr_in (i := 391) (by decide +kernel) rfl⟩
theorem rc_X2_canTake : cr_rc Y_X2_canTake := ⟨2, _, _, rfl, rfl, rfl⟩
theorem cd_X2_copyFrom : Cond.code (cr_nm Y_X2_copyFrom) (cr_by Y_X2_copyFrom) (cr_ml Y_X2_copyFrom) (cr_rt Y_X2_copyFrom) ∈ cr_tb := cr_in (i := 475) (by decide +kernel) rfl
theorem cv_X2_copyFrom : cr_csV Y_X2_copyFrom := ⟨cr_in (i := 473) (by decide +kernel) rfl, cr_in (i := 474) (by decide +kernel) rfl⟩
theorem rc_X2_copyFrom : cr_rc Y_X2_copyFrom := ⟨2, _, _, rfl, rfl, rfl⟩
theorem cd_X2_countFree : Cond.code (cr_nm Y_X2_countFree) (cr_by Y_X2_countFree) (cr_ml Y_X2_countFree) (cr_rt Y_X2_countFree) ∈ cr_tb := cr_in (i := 580) (by decide +kernel) rfl
theorem cv_X2_countFree : cr_csV Y_X2_countFree := ⟨cr_in (i := 578) (by decide +kernel) rfl, cr_in (i := 579) (by decide +kernel) rfl⟩
theorem rc_X2_countFree : cr_rc Y_X2_countFree := ⟨2, _, _, rfl, rfl, rfl⟩
theorem cd_X2_endBreaks : Cond.code (cr_nm Y_X2_endBreaks) (cr_by Y_X2_endBreaks) (cr_ml Y_X2_endBreaks) (cr_rt Y_X2_endBreaks) ∈ cr_tb := cr_in (i := 368) (by decide +kernel) rfl
theorem cv_X2_endBreaks : cr_csV Y_X2_endBreaks := ⟨cr_in (i := 366) (by decide +kernel) rfl, cr_in (i := 367) (by decide +kernel) rfl⟩
theorem rc_X2_endBreaks : cr_rc Y_X2_endBreaks := ⟨2, _, _, rfl, rfl, rfl⟩
theorem cd_X2_gradeFor : Cond.code (cr_nm Y_X2_gradeFor) (cr_by Y_X2_gradeFor) (cr_ml Y_X2_gradeFor) (cr_rt Y_X2_gradeFor) ∈ cr_tb := cr_in (i := 255) (by decide +kernel) rfl
theorem cv_X2_gradeFor : cr_csV Y_X2_gradeFor := ⟨cr_in (i := 253) (by decide +kernel) rfl, cr_in (i := 254) (by decide +kernel) rfl⟩
theorem rc_X2_gradeFor : cr_rc Y_X2_gradeFor := ⟨2, _, _, rfl, rfl, rfl⟩
theorem cd_X2_has : Cond.code (cr_nm Y_X2_has) (cr_by Y_X2_has) (cr_ml Y_X2_has) (cr_rt Y_X2_has) ∈ cr_tb := cr_in (i := 245) (by decide +kernel) rfl
theorem cv_X2_has : cr_csV Y_X2_has := ⟨cr_in (i := 243) (by decide +kernel) rfl, cr_in (i := 244) (by decide +kernel) rfl⟩
theorem rc_X2_has : cr_rc Y_X2_has := ⟨2, _, _, rfl, rfl, rfl⟩
theorem cd_X2_isBetter : Cond.code (cr_nm Y_X2_isBetter) (cr_by Y_X2_isBetter) (cr_ml Y_X2_isBetter) (cr_rt Y_X2_isBetter) ∈ cr_tb := cr_in (i := 413) (by decide +kernel) rfl
theorem cv_X2_isBetter : cr_csV Y_X2_isBetter := ⟨cr_in (i := 411) (by decide +kernel) rfl, cr_in (i := 412) (by decide +kernel) rfl⟩
theorem rc_X2_isBetter : cr_rc Y_X2_isBetter := ⟨2, _, _, rfl, rfl, rfl⟩
theorem cd_X2_letGo : Cond.code (cr_nm Y_X2_letGo) (cr_by Y_X2_letGo) (cr_ml Y_X2_letGo) (cr_rt Y_X2_letGo) ∈ cr_tb := cr_in (i := 328) (by decide +kernel) rfl
theorem cv_X2_letGo : cr_csV Y_X2_letGo := ⟨cr_in (i := 326) (by decide +kernel) rfl, cr_in (i := 327) (by decide +kernel) rfl⟩
theorem rc_X2_letGo : cr_rc Y_X2_letGo := ⟨2, _, _, rfl, rfl, rfl⟩
theorem cd_X2_nextBreakOver : Cond.code (cr_nm Y_X2_nextBreakOver) (cr_by Y_X2_nextBreakOver) (cr_ml Y_X2_nextBreakOver) (cr_rt Y_X2_nextBreakOver) ∈ cr_tb := cr_in (i := 449) (by decide +kernel) rfl
theorem cv_X2_nextBreakOver : cr_csV Y_X2_nextBreakOver := ⟨cr_in (i := 447) (by decide +kernel) rfl, cr_in (i := 448) (by decide +kernel) rfl⟩
theorem rc_X2_nextBreakOver : cr_rc Y_X2_nextBreakOver := ⟨2, _, _, rfl, rfl, rfl⟩
theorem cd_X2_setGrade : Cond.code (cr_nm Y_X2_setGrade) (cr_by Y_X2_setGrade) (cr_ml Y_X2_setGrade) (cr_rt Y_X2_setGrade) ∈ cr_tb := cr_in (i := 259) (by decide +kernel) rfl
theorem cv_X2_setGrade : cr_csV Y_X2_setGrade := ⟨cr_in (i := 257) (by decide +kernel) rfl, cr_in (i := 258) (by decide +kernel) rfl⟩
theorem rc_X2_setGrade : cr_rc Y_X2_setGrade := ⟨2, _, _, rfl, rfl, rfl⟩
theorem cd_X2_someCanTake : Cond.code (cr_nm Y_X2_someCanTake) (cr_by Y_X2_someCanTake) (cr_ml Y_X2_someCanTake) (cr_rt Y_X2_someCanTake) ∈ cr_tb := cr_in (i := 512) (by decide +kernel) rfl
theorem cv_X2_someCanTake : cr_csV Y_X2_someCanTake := ⟨cr_in (i := 510) (by decide +kernel) rfl, cr_in (i := 511) (by decide +kernel) rfl⟩
theorem rc_X2_someCanTake : cr_rc Y_X2_someCanTake := ⟨2, _, _, rfl, rfl, rfl⟩
theorem cd_X2_someInHasGrade : Cond.code (cr_nm Y_X2_someInHasGrade) (cr_by Y_X2_someInHasGrade) (cr_ml Y_X2_someInHasGrade) (cr_rt Y_X2_someInHasGrade) ∈ cr_tb := cr_in (i := 508) (by decide +kernel) rfl
theorem cv_X2_someInHasGrade : cr_csV Y_X2_someInHasGrade := ⟨cr_in (i := 506) (by decide +kernel) rfl, cr_in (i := 507) (by decide +kernel) rfl⟩
theorem rc_X2_someInHasGrade : cr_rc Y_X2_someInHasGrade := ⟨2, _, _, rfl, rfl, rfl⟩
theorem cd_X2_sortsOf : Cond.code (cr_nm Y_X2_sortsOf) (cr_by Y_X2_sortsOf) (cr_ml Y_X2_sortsOf) (cr_rt Y_X2_sortsOf) ∈ cr_tb := cr_in (i := 418) (by decide +kernel) rfl
theorem cv_X2_sortsOf : cr_csV Y_X2_sortsOf := ⟨cr_in (i := 416) (by decide +kernel) rfl, cr_in (i := 417) (by decide +kernel) rfl⟩
theorem rc_X2_sortsOf : cr_rc Y_X2_sortsOf := ⟨2, _, _, rfl, rfl, rfl⟩
theorem cd_X2_take : Cond.code (cr_nm Y_X2_take) (cr_by Y_X2_take) (cr_ml Y_X2_take) (cr_rt Y_X2_take) ∈ cr_tb := cr_in (i := 437) (by decide +kernel) rfl
theorem cv_X2_take : cr_csV Y_X2_take := ⟨cr_in (i := 435) (by decide +kernel) rfl, cr_in (i := 436) (by decide +kernel) rfl⟩
theorem rc_X2_take : cr_rc Y_X2_take := ⟨2, _, _, rfl, rfl, rfl⟩
theorem cd_X3_plan : Cond.code (cr_nm Y_X3_plan) (cr_by Y_X3_plan) (cr_ml Y_X3_plan) (cr_rt Y_X3_plan) ∈ cr_tb := cr_in (i := 550) (by decide +kernel) rfl
theorem cv_X3_plan : cr_csV Y_X3_plan := ⟨cr_in (i := 548) (by decide +kernel) rfl, cr_in (i := 549) (by decide +kernel) rfl⟩
theorem rc_X3_plan : cr_rc Y_X3_plan := ⟨3, _, _, rfl, rfl, rfl⟩
theorem cd_X5_becomes : Cond.code (cr_nm Y_X5_becomes) (cr_by Y_X5_becomes) (cr_ml Y_X5_becomes) (cr_rt Y_X5_becomes) ∈ cr_tb := cr_in (i := 738) (by decide +kernel) rfl
theorem cv_X5_becomes : cr_csV Y_X5_becomes := ⟨cr_in (i := 737) (by decide +kernel) rfl, cr_in (i := 17) (by decide +kernel) rfl⟩
theorem rc_X5_becomes : cr_rc Y_X5_becomes := ⟨5, _, _, rfl, rfl, rfl⟩
theorem cd_X5_begins : Cond.code (cr_nm Y_X5_begins) (cr_by Y_X5_begins) (cr_ml Y_X5_begins) (cr_rt Y_X5_begins) ∈ cr_tb := cr_in (i := 886) (by decide +kernel) rfl
theorem cv_X5_begins : cr_csV Y_X5_begins := ⟨cr_in (i := 884) (by decide +kernel) rfl, cr_in (i := 885) (by decide +kernel) rfl⟩
theorem rc_X5_begins : cr_rc Y_X5_begins := ⟨5, _, _, rfl, rfl, rfl⟩
theorem cd_X5_call : Cond.code (cr_nm Y_X5_call) (cr_by Y_X5_call) (cr_ml Y_X5_call) (cr_rt Y_X5_call) ∈ cr_tb := cr_in (i := 750) (by decide +kernel) rfl
theorem cv_X5_call : cr_csV Y_X5_call := ⟨cr_in (i := 748) (by decide +kernel) rfl, cr_in (i := 749) (by decide +kernel) rfl⟩
theorem rc_X5_call : cr_rc Y_X5_call := ⟨5, _, _, rfl, rfl, rfl⟩
theorem cd_X5_callOf : Cond.code (cr_nm Y_X5_callOf) (cr_by Y_X5_callOf) (cr_ml Y_X5_callOf) (cr_rt Y_X5_callOf) ∈ cr_tb := cr_in (i := 894) (by decide +kernel) rfl
theorem cv_X5_callOf : cr_csV Y_X5_callOf := ⟨cr_in (i := 892) (by decide +kernel) rfl, cr_in (i := 893) (by decide +kernel) rfl⟩
theorem rc_X5_callOf : cr_rc Y_X5_callOf := ⟨5, _, _, rfl, rfl, rfl⟩
theorem cd_X5_count : Cond.code (cr_nm Y_X5_count) (cr_by Y_X5_count) (cr_ml Y_X5_count) (cr_rt Y_X5_count) ∈ cr_tb := cr_in (i := 898) (by decide +kernel) rfl
theorem cv_X5_count : cr_csV Y_X5_count := ⟨cr_in (i := 896) (by decide +kernel) rfl, cr_in (i := 897) (by decide +kernel) rfl⟩
theorem rc_X5_count : cr_rc Y_X5_count := ⟨5, _, _, rfl, rfl, rfl⟩
theorem cd_X5_cover : Cond.code (cr_nm Y_X5_cover) (cr_by Y_X5_cover) (cr_ml Y_X5_cover) (cr_rt Y_X5_cover) ∈ cr_tb := cr_in (i := 880) (by decide +kernel) rfl
theorem cv_X5_cover : cr_csV Y_X5_cover := ⟨cr_in (i := 878) (by decide +kernel) rfl, cr_in (i := 879) (by decide +kernel) rfl⟩
theorem rc_X5_cover : cr_rc Y_X5_cover := ⟨5, _, _, rfl, rfl, rfl⟩
theorem cd_X5_duty : Cond.code (cr_nm Y_X5_duty) (cr_by Y_X5_duty) (cr_ml Y_X5_duty) (cr_rt Y_X5_duty) ∈ cr_tb := cr_in (i := 734) (by decide +kernel) rfl
theorem cv_X5_duty : cr_csV Y_X5_duty := ⟨cr_in (i := 732) (by decide +kernel) rfl, cr_in (i := 733) (by decide +kernel) rfl⟩
theorem rc_X5_duty : cr_rc Y_X5_duty := ⟨5, _, _, rfl, rfl, rfl⟩
theorem cd_X5_freeFor : Cond.code (cr_nm Y_X5_freeFor) (cr_by Y_X5_freeFor) (cr_ml Y_X5_freeFor) (cr_rt Y_X5_freeFor) ∈ cr_tb := cr_in (i := 818) (by decide +kernel) rfl
theorem cv_X5_freeFor : cr_csV Y_X5_freeFor := ⟨cr_in (i := 817) (by decide +kernel) rfl, cr_in (i := 27) (by decide +kernel) rfl⟩
theorem rc_X5_freeFor : cr_rc Y_X5_freeFor := ⟨5, _, _, rfl, rfl, rfl⟩
theorem cd_X5_give : Cond.code (cr_nm Y_X5_give) (cr_by Y_X5_give) (cr_ml Y_X5_give) (cr_rt Y_X5_give) ∈ cr_tb := cr_in (i := 794) (by decide +kernel) rfl
theorem cv_X5_give : cr_csV Y_X5_give := ⟨cr_in (i := 793) (by decide +kernel) rfl, cr_in (i := 21) (by decide +kernel) rfl⟩
theorem rc_X5_give : cr_rc Y_X5_give := ⟨5, _, _, rfl, rfl, rfl⟩
theorem cd_X5_goesOn : Cond.code (cr_nm Y_X5_goesOn) (cr_by Y_X5_goesOn) (cr_ml Y_X5_goesOn) (cr_rt Y_X5_goesOn) ∈ cr_tb := cr_in (i := 786) (by decide +kernel) rfl
theorem cv_X5_goesOn : cr_csV Y_X5_goesOn := ⟨cr_in (i := 785) (by decide +kernel) rfl, cr_in (i := 19) (by decide +kernel) rfl⟩
theorem rc_X5_goesOn : cr_rc Y_X5_goesOn := ⟨5, _, _, rfl, rfl, rfl⟩
theorem cd_X5_grade : Cond.code (cr_nm Y_X5_grade) (cr_by Y_X5_grade) (cr_ml Y_X5_grade) (cr_rt Y_X5_grade) ∈ cr_tb := cr_in (i := 723) (by decide +kernel) rfl
theorem cv_X5_grade : cr_csV Y_X5_grade := ⟨cr_in (i := 721) (by decide +kernel) rfl, cr_in (i := 722) (by decide +kernel) rfl⟩
theorem rc_X5_grade : cr_rc Y_X5_grade := ⟨5, _, _, rfl, rfl, rfl⟩
theorem cd_X5_gradeOf : Cond.code (cr_nm Y_X5_gradeOf) (cr_by Y_X5_gradeOf) (cr_ml Y_X5_gradeOf) (cr_rt Y_X5_gradeOf) ∈ cr_tb := cr_in (i := 730) (by decide +kernel) rfl
theorem cv_X5_gradeOf : cr_csV Y_X5_gradeOf := ⟨cr_in (i := 729) (by decide +kernel) rfl, cr_in (i := 16) (by decide +kernel) rfl⟩
theorem rc_X5_gradeOf : cr_rc Y_X5_gradeOf := ⟨5, _, _, rfl, rfl, rfl⟩
theorem cd_X5_hasRoom : Cond.code (cr_nm Y_X5_hasRoom) (cr_by Y_X5_hasRoom) (cr_ml Y_X5_hasRoom) (cr_rt Y_X5_hasRoom) ∈ cr_tb := cr_in (i := 810) (by decide +kernel) rfl
theorem cv_X5_hasRoom : cr_csV Y_X5_hasRoom := ⟨cr_in (i := 809) (by decide +kernel) rfl, cr_in (i := 25) (by decide +kernel) rfl⟩
theorem rc_X5_hasRoom : cr_rc Y_X5_hasRoom := ⟨5, _, _, rfl, rfl, rfl⟩
theorem cd_X5_helper : Cond.code (cr_nm Y_X5_helper) (cr_by Y_X5_helper) (cr_ml Y_X5_helper) (cr_rt Y_X5_helper) ∈ cr_tb := cr_in (i := 715) (by decide +kernel) rfl
theorem cv_X5_helper : cr_csV Y_X5_helper := ⟨cr_in (i := 713) (by decide +kernel) rfl, cr_in (i := 714) (by decide +kernel) rfl⟩
theorem rc_X5_helper : cr_rc Y_X5_helper := ⟨5, _, _, rfl, rfl, rfl⟩
theorem cd_X5_helperFor : Cond.code (cr_nm Y_X5_helperFor) (cr_by Y_X5_helperFor) (cr_ml Y_X5_helperFor) (cr_rt Y_X5_helperFor) ∈ cr_tb := cr_in (i := 822) (by decide +kernel) rfl
theorem cv_X5_helperFor : cr_csV Y_X5_helperFor := ⟨cr_in (i := 821) (by decide +kernel) rfl, cr_in (i := 28) (by decide +kernel) rfl⟩
theorem rc_X5_helperFor : cr_rc Y_X5_helperFor := ⟨5, _, _, rfl, rfl, rfl⟩
theorem cd_X5_helperOf : Cond.code (cr_nm Y_X5_helperOf) (cr_by Y_X5_helperOf) (cr_ml Y_X5_helperOf) (cr_rt Y_X5_helperOf) ∈ cr_tb := cr_in (i := 890) (by decide +kernel) rfl
theorem cv_X5_helperOf : cr_csV Y_X5_helperOf := ⟨cr_in (i := 888) (by decide +kernel) rfl, cr_in (i := 889) (by decide +kernel) rfl⟩
theorem rc_X5_helperOf : cr_rc Y_X5_helperOf := ⟨5, _, _, rfl, rfl, rfl⟩
theorem cd_X5_inState : Cond.code (cr_nm Y_X5_inState) (cr_by Y_X5_inState) (cr_ml Y_X5_inState) (cr_rt Y_X5_inState) ∈ cr_tb := cr_in (i := 902) (by decide +kernel) rfl
theorem cv_X5_inState : cr_csV Y_X5_inState := ⟨cr_in (i := 901) (by decide +kernel) rfl, cr_in (i := 34) (by decide +kernel) rfl⟩
theorem rc_X5_inState : cr_rc Y_X5_inState := ⟨5, _, _, rfl, rfl, rfl⟩
theorem cd_X5_isAhead : Cond.code (cr_nm Y_X5_isAhead) (cr_by Y_X5_isAhead) (cr_ml Y_X5_isAhead) (cr_rt Y_X5_isAhead) ∈ cr_tb := cr_in (i := 826) (by decide +kernel) rfl
theorem cv_X5_isAhead : cr_csV Y_X5_isAhead := ⟨cr_in (i := 825) (by decide +kernel) rfl, cr_in (i := 29) (by decide +kernel) rfl⟩
theorem rc_X5_isAhead : cr_rc Y_X5_isAhead := ⟨5, _, _, rfl, rfl, rfl⟩
theorem cd_X5_isIn : Cond.code (cr_nm Y_X5_isIn) (cr_by Y_X5_isIn) (cr_ml Y_X5_isIn) (cr_rt Y_X5_isIn) ∈ cr_tb := cr_in (i := 726) (by decide +kernel) rfl
theorem st_X5_isIn : Cond.static (cr_nm Y_X5_isIn) ∈ cr_tb := cr_in (i := 725) (by decide +kernel) rfl
theorem cd_X5_isTakeable : Cond.code (cr_nm Y_X5_isTakeable) (cr_by Y_X5_isTakeable) (cr_ml Y_X5_isTakeable) (cr_rt Y_X5_isTakeable) ∈ cr_tb := cr_in (i := 802) (by decide +kernel) rfl
theorem cv_X5_isTakeable : cr_csV Y_X5_isTakeable := ⟨cr_in (i := 801) (by decide +kernel) rfl, cr_in (i := 23) (by decide +kernel) rfl⟩
theorem rc_X5_isTakeable : cr_rc Y_X5_isTakeable := ⟨5, _, _, rfl, rfl, rfl⟩
theorem cd_X5_keep : Cond.code (cr_nm Y_X5_keep) (cr_by Y_X5_keep) (cr_ml Y_X5_keep) (cr_rt Y_X5_keep) ∈ cr_tb := cr_in (i := 838) (by decide +kernel) rfl
theorem cv_X5_keep : cr_csV Y_X5_keep := ⟨cr_in (i := 837) (by decide +kernel) rfl, cr_in (i := 31) (by decide +kernel) rfl⟩
theorem rc_X5_keep : cr_rc Y_X5_keep := ⟨5, _, _, rfl, rfl, rfl⟩
theorem cd_X5_leave : Cond.code (cr_nm Y_X5_leave) (cr_by Y_X5_leave) (cr_ml Y_X5_leave) (cr_rt Y_X5_leave) ∈ cr_tb := cr_in (i := 774) (by decide +kernel) rfl
theorem cv_X5_leave : cr_csV Y_X5_leave := ⟨cr_in (i := 772) (by decide +kernel) rfl, cr_in (i := 773) (by decide +kernel) rfl⟩
theorem rc_X5_leave : cr_rc Y_X5_leave := ⟨5, _, _, rfl, rfl, rfl⟩
theorem cd_X5_loses : Cond.code (cr_nm Y_X5_loses) (cr_by Y_X5_loses) (cr_ml Y_X5_loses) (cr_rt Y_X5_loses) ∈ cr_tb := cr_in (i := 770) (by decide +kernel) rfl
theorem cv_X5_loses : cr_csV Y_X5_loses := ⟨cr_in (i := 769) (by decide +kernel) rfl, cr_in (i := 18) (by decide +kernel) rfl⟩
theorem rc_X5_loses : cr_rc Y_X5_loses := ⟨5, _, _, rfl, rfl, rfl⟩
theorem cd_X5_loss : Cond.code (cr_nm Y_X5_loss) (cr_by Y_X5_loss) (cr_ml Y_X5_loss) (cr_rt Y_X5_loss) ∈ cr_tb := cr_in (i := 862) (by decide +kernel) rfl
theorem cv_X5_loss : cr_csV Y_X5_loss := ⟨cr_in (i := 860) (by decide +kernel) rfl, cr_in (i := 861) (by decide +kernel) rfl⟩
theorem rc_X5_loss : cr_rc Y_X5_loss := ⟨5, _, _, rfl, rfl, rfl⟩
theorem cd_X5_lossOf : Cond.code (cr_nm Y_X5_lossOf) (cr_by Y_X5_lossOf) (cr_ml Y_X5_lossOf) (cr_rt Y_X5_lossOf) ∈ cr_tb := cr_in (i := 865) (by decide +kernel) rfl
theorem st_X5_lossOf : Cond.static (cr_nm Y_X5_lossOf) ∈ cr_tb := cr_in (i := 864) (by decide +kernel) rfl
theorem cd_X5_may : Cond.code (cr_nm Y_X5_may) (cr_by Y_X5_may) (cr_ml Y_X5_may) (cr_rt Y_X5_may) ∈ cr_tb := cr_in (i := 806) (by decide +kernel) rfl
theorem cv_X5_may : cr_csV Y_X5_may := ⟨cr_in (i := 805) (by decide +kernel) rfl, cr_in (i := 24) (by decide +kernel) rfl⟩
theorem rc_X5_may : cr_rc Y_X5_may := ⟨5, _, _, rfl, rfl, rfl⟩
theorem cd_X5_nextCall : Cond.code (cr_nm Y_X5_nextCall) (cr_by Y_X5_nextCall) (cr_ml Y_X5_nextCall) (cr_rt Y_X5_nextCall) ∈ cr_tb := cr_in (i := 798) (by decide +kernel) rfl
theorem cv_X5_nextCall : cr_csV Y_X5_nextCall := ⟨cr_in (i := 797) (by decide +kernel) rfl, cr_in (i := 22) (by decide +kernel) rfl⟩
theorem rc_X5_nextCall : cr_rc Y_X5_nextCall := ⟨5, _, _, rfl, rfl, rfl⟩
theorem cd_X5_out : Cond.code (cr_nm Y_X5_out) (cr_by Y_X5_out) (cr_ml Y_X5_out) (cr_rt Y_X5_out) ∈ cr_tb := cr_in (i := 742) (by decide +kernel) rfl
theorem cv_X5_out : cr_csV Y_X5_out := ⟨cr_in (i := 740) (by decide +kernel) rfl, cr_in (i := 741) (by decide +kernel) rfl⟩
theorem rc_X5_out : cr_rc Y_X5_out := ⟨5, _, _, rfl, rfl, rfl⟩
theorem cd_X5_pass : Cond.code (cr_nm Y_X5_pass) (cr_by Y_X5_pass) (cr_ml Y_X5_pass) (cr_rt Y_X5_pass) ∈ cr_tb := cr_in (i := 766) (by decide +kernel) rfl
theorem cv_X5_pass : cr_csV Y_X5_pass := ⟨cr_in (i := 764) (by decide +kernel) rfl, cr_in (i := 765) (by decide +kernel) rfl⟩
theorem rc_X5_pass : cr_rc Y_X5_pass := ⟨5, _, _, rfl, rfl, rfl⟩
theorem cd_X5_pause : Cond.code (cr_nm Y_X5_pause) (cr_by Y_X5_pause) (cr_ml Y_X5_pause) (cr_rt Y_X5_pause) ∈ cr_tb := cr_in (i := 746) (by decide +kernel) rfl
theorem cv_X5_pause : cr_csV Y_X5_pause := ⟨cr_in (i := 744) (by decide +kernel) rfl, cr_in (i := 745) (by decide +kernel) rfl⟩
theorem rc_X5_pause : cr_rc Y_X5_pause := ⟨5, _, _, rfl, rfl, rfl⟩
theorem cd_X5_prefer : Cond.code (cr_nm Y_X5_prefer) (cr_by Y_X5_prefer) (cr_ml Y_X5_prefer) (cr_rt Y_X5_prefer) ∈ cr_tb := cr_in (i := 758) (by decide +kernel) rfl
theorem cv_X5_prefer : cr_csV Y_X5_prefer := ⟨cr_in (i := 756) (by decide +kernel) rfl, cr_in (i := 757) (by decide +kernel) rfl⟩
theorem rc_X5_prefer : cr_rc Y_X5_prefer := ⟨5, _, _, rfl, rfl, rfl⟩
theorem cd_X5_putBack : Cond.code (cr_nm Y_X5_putBack) (cr_by Y_X5_putBack) (cr_ml Y_X5_putBack) (cr_rt Y_X5_putBack) ∈ cr_tb := cr_in (i := 842) (by decide +kernel) rfl
theorem cv_X5_putBack : cr_csV Y_X5_putBack := ⟨cr_in (i := 841) (by decide +kernel) rfl, cr_in (i := 32) (by decide +kernel) rfl⟩
theorem rc_X5_putBack : cr_rc Y_X5_putBack := ⟨5, _, _, rfl, rfl, rfl⟩
theorem cd_X5_rankOf : Cond.code (cr_nm Y_X5_rankOf) (cr_by Y_X5_rankOf) (cr_ml Y_X5_rankOf) (cr_rt Y_X5_rankOf) ∈ cr_tb := cr_in (i := 814) (by decide +kernel) rfl
theorem cv_X5_rankOf : cr_csV Y_X5_rankOf := ⟨cr_in (i := 813) (by decide +kernel) rfl, cr_in (i := 26) (by decide +kernel) rfl⟩
theorem rc_X5_rankOf : cr_rc Y_X5_rankOf := ⟨5, _, _, rfl, rfl, rfl⟩
theorem cd_X5_refuse : Cond.code (cr_nm Y_X5_refuse) (cr_by Y_X5_refuse) (cr_ml Y_X5_refuse) (cr_rt Y_X5_refuse) ∈ cr_tb := cr_in (i := 719) (by decide +kernel) rfl
theorem cv_X5_refuse : cr_csV Y_X5_refuse := ⟨cr_in (i := 718) (by decide +kernel) rfl, cr_in (i := 15) (by decide +kernel) rfl⟩
theorem rc_X5_refuse : cr_rc Y_X5_refuse := ⟨5, _, _, rfl, rfl, rfl⟩
theorem cd_X5_ring : Cond.code (cr_nm Y_X5_ring) (cr_by Y_X5_ring) (cr_ml Y_X5_ring) (cr_rt Y_X5_ring) ∈ cr_tb := cr_in (i := 762) (by decide +kernel) rfl
theorem cv_X5_ring : cr_csV Y_X5_ring := ⟨cr_in (i := 760) (by decide +kernel) rfl, cr_in (i := 761) (by decide +kernel) rfl⟩
theorem rc_X5_ring : cr_rc Y_X5_ring := ⟨5, _, _, rfl, rfl, rfl⟩
theorem cd_X5_rule : Cond.code (cr_nm Y_X5_rule) (cr_by Y_X5_rule) (cr_ml Y_X5_rule) (cr_rt Y_X5_rule) ∈ cr_tb := cr_in (i := 754) (by decide +kernel) rfl
theorem cv_X5_rule : cr_csV Y_X5_rule := ⟨cr_in (i := 752) (by decide +kernel) rfl, cr_in (i := 753) (by decide +kernel) rfl⟩
theorem rc_X5_rule : cr_rc Y_X5_rule := ⟨5, _, _, rfl, rfl, rfl⟩
theorem cd_X5_sortsOf : Cond.code (cr_nm Y_X5_sortsOf) (cr_by Y_X5_sortsOf) (cr_ml Y_X5_sortsOf) (cr_rt Y_X5_sortsOf) ∈ cr_tb := cr_in (i := 830) (by decide +kernel) rfl
theorem cv_X5_sortsOf : cr_csV Y_X5_sortsOf := ⟨cr_in (i := 829) (by decide +kernel) rfl, cr_in (i := 30) (by decide +kernel) rfl⟩
theorem rc_X5_sortsOf : cr_rc Y_X5_sortsOf := ⟨5, _, _, rfl, rfl, rfl⟩
theorem cd_X5_ticks : Cond.code (cr_nm Y_X5_ticks) (cr_by Y_X5_ticks) (cr_ml Y_X5_ticks) (cr_rt Y_X5_ticks) ∈ cr_tb := cr_in (i := 782) (by decide +kernel) rfl
theorem cv_X5_ticks : cr_csV Y_X5_ticks := ⟨cr_in (i := 780) (by decide +kernel) rfl, cr_in (i := 781) (by decide +kernel) rfl⟩
theorem rc_X5_ticks : cr_rc Y_X5_ticks := ⟨5, _, _, rfl, rfl, rfl⟩
theorem cd_X5_urge : Cond.code (cr_nm Y_X5_urge) (cr_by Y_X5_urge) (cr_ml Y_X5_urge) (cr_rt Y_X5_urge) ∈ cr_tb := cr_in (i := 778) (by decide +kernel) rfl
theorem cv_X5_urge : cr_csV Y_X5_urge := ⟨cr_in (i := 776) (by decide +kernel) rfl, cr_in (i := 777) (by decide +kernel) rfl⟩
theorem rc_X5_urge : cr_rc Y_X5_urge := ⟨5, _, _, rfl, rfl, rfl⟩
theorem cd_X5_wait : Cond.code (cr_nm Y_X5_wait) (cr_by Y_X5_wait) (cr_ml Y_X5_wait) (cr_rt Y_X5_wait) ∈ cr_tb := cr_in (i := 834) (by decide +kernel) rfl
theorem cv_X5_wait : cr_csV Y_X5_wait := ⟨cr_in (i := 832) (by decide +kernel) rfl, cr_in (i := 833) (by decide +kernel) rfl⟩
theorem rc_X5_wait : cr_rc Y_X5_wait := ⟨5, _, _, rfl, rfl, rfl⟩
theorem cd_X5_waitedOf : Cond.code (cr_nm Y_X5_waitedOf) (cr_by Y_X5_waitedOf) (cr_ml Y_X5_waitedOf) (cr_rt Y_X5_waitedOf) ∈ cr_tb := cr_in (i := 790) (by decide +kernel) rfl
theorem cv_X5_waitedOf : cr_csV Y_X5_waitedOf := ⟨cr_in (i := 789) (by decide +kernel) rfl, cr_in (i := 20) (by decide +kernel) rfl⟩
theorem rc_X5_waitedOf : cr_rc Y_X5_waitedOf := ⟨5, _, _, rfl, rfl, rfl⟩
theorem cd_X5_want : Cond.code (cr_nm Y_X5_want) (cr_by Y_X5_want) (cr_ml Y_X5_want) (cr_rt Y_X5_want) ∈ cr_tb := cr_in (i := 876) (by decide +kernel) rfl
theorem cv_X5_want : cr_csV Y_X5_want := ⟨cr_in (i := 874) (by decide +kernel) rfl, cr_in (i := 875) (by decide +kernel) rfl⟩
theorem rc_X5_want : cr_rc Y_X5_want := ⟨5, _, _, rfl, rfl, rfl⟩
theorem cd_X5_wanted : Cond.code (cr_nm Y_X5_wanted) (cr_by Y_X5_wanted) (cr_ml Y_X5_wanted) (cr_rt Y_X5_wanted) ∈ cr_tb := cr_in (i := 871) (by decide +kernel) rfl
theorem cv_X5_wanted : cr_csV Y_X5_wanted := ⟨cr_in (i := 869) (by decide +kernel) rfl, cr_in (i := 870) (by decide +kernel) rfl⟩
theorem rc_X5_wanted : cr_rc Y_X5_wanted := ⟨5, _, _, rfl, rfl, rfl⟩
theorem cd_X5_who : Cond.code (cr_nm Y_X5_who) (cr_by Y_X5_who) (cr_ml Y_X5_who) (cr_rt Y_X5_who) ∈ cr_tb := cr_in (i := 846) (by decide +kernel) rfl
theorem cv_X5_who : cr_csV Y_X5_who := ⟨cr_in (i := 844) (by decide +kernel) rfl, cr_in (i := 845) (by decide +kernel) rfl⟩
theorem rc_X5_who : cr_rc Y_X5_who := ⟨5, _, _, rfl, rfl, rfl⟩
theorem cd_X5_whoOf : Cond.code (cr_nm Y_X5_whoOf) (cr_by Y_X5_whoOf) (cr_ml Y_X5_whoOf) (cr_rt Y_X5_whoOf) ∈ cr_tb := cr_in (i := 850) (by decide +kernel) rfl
theorem cv_X5_whoOf : cr_csV Y_X5_whoOf := ⟨cr_in (i := 849) (by decide +kernel) rfl, cr_in (i := 33) (by decide +kernel) rfl⟩
theorem rc_X5_whoOf : cr_rc Y_X5_whoOf := ⟨5, _, _, rfl, rfl, rfl⟩
theorem cd_X5_why : Cond.code (cr_nm Y_X5_why) (cr_by Y_X5_why) (cr_ml Y_X5_why) (cr_rt Y_X5_why) ∈ cr_tb := cr_in (i := 854) (by decide +kernel) rfl
theorem cv_X5_why : cr_csV Y_X5_why := ⟨cr_in (i := 852) (by decide +kernel) rfl, cr_in (i := 853) (by decide +kernel) rfl⟩
theorem rc_X5_why : cr_rc Y_X5_why := ⟨5, _, _, rfl, rfl, rfl⟩
theorem cd_X5_within : Cond.code (cr_nm Y_X5_within) (cr_by Y_X5_within) (cr_ml Y_X5_within) (cr_rt Y_X5_within) ∈ cr_tb := cr_in (i := 858) (by decide +kernel) rfl
theorem cv_X5_within : cr_csV Y_X5_within := ⟨cr_in (i := 856) (by decide +kernel) rfl, cr_in (i := 857) (by decide +kernel) rfl⟩
theorem rc_X5_within : cr_rc Y_X5_within := ⟨5, _, _, rfl, rfl, rfl⟩
theorem cd_J_bit : Cond.code (cr_nm Y_J_bit) (cr_by Y_J_bit) (cr_ml Y_J_bit) (cr_rt Y_J_bit) ∈ cr_tb := cr_in (i := 421) (by decide +kernel) rfl
theorem st_J_bit : Cond.static (cr_nm Y_J_bit) ∈ cr_tb := cr_in (i := 420) (by decide +kernel) rfl
theorem cm_max : Cond.static Lib.Math.max.name ∈ cr_tb ∧ Cond.initialized "java/lang/Math" ∈ cr_tb ∧ Cond.code Lib.Math.max.name Lib.Math.max.code 2 (some .int) ∈ cr_tb := ⟨cr_in (i := 462) (by decide +kernel) rfl, cr_in (i := 43) (by decide +kernel) rfl, cr_in (i := 463) (by decide +kernel) rfl⟩
theorem cm_min : Cond.static Lib.Math.min.name ∈ cr_tb ∧ Cond.initialized "java/lang/Math" ∈ cr_tb ∧ Cond.code Lib.Math.min.name Lib.Math.min.code 2 (some .int) ∈ cr_tb := ⟨cr_in (i := 452) (by decide +kernel) rfl, cr_in (i := 43) (by decide +kernel) rfl, cr_in (i := 453) (by decide +kernel) rfl⟩
theorem cs_X0_arrive_52 : cr_cs Y_X0_arrive Y_X0_waitAgain 52 2 := ⟨cd_X0_waitAgain, cr_in (i := 292) (by decide +kernel) rfl, cr_in (i := 39) (by decide +kernel) rfl, by decide +kernel, by decide +kernel, by decide +kernel⟩
theorem cs_X0_ringBackDue_52 : cr_cs Y_X0_ringBackDue Y_X0_waitAgain 52 2 := ⟨cd_X0_waitAgain, cr_in (i := 292) (by decide +kernel) rfl, cr_in (i := 39) (by decide +kernel) rfl, by decide +kernel, by decide +kernel, by decide +kernel⟩
theorem cm_X0_nextChange_57 : Cond.methodLink (cr_nm Y_X0_nextChange).cls 57 Lib.Math.min.name ∈ cr_tb := cr_in (i := 459) (by decide +kernel) rfl
theorem cs_X1_copyFrom_36 : cr_cs Y_X1_copyFrom Y_X2_copyFrom 36 1 := ⟨cd_X2_copyFrom, cr_in (i := 472) (by decide +kernel) rfl, cr_in (i := 38) (by decide +kernel) rfl, by decide +kernel, by decide +kernel, by decide +kernel⟩
theorem cs_X1_copyFrom_40 : cr_cs Y_X1_copyFrom Y_X0_copyFrom 40 1 := ⟨cd_X0_copyFrom, cr_in (i := 479) (by decide +kernel) rfl, cr_in (i := 39) (by decide +kernel) rfl, by decide +kernel, by decide +kernel, by decide +kernel⟩
theorem cs_X1_goOn_49 : cr_cs Y_X1_goOn Y_X1_passTick 49 0 := ⟨cd_X1_passTick, cr_in (i := 347) (by decide +kernel) rfl, cr_in (i := 37) (by decide +kernel) rfl, by decide +kernel, by decide +kernel, by decide +kernel⟩
theorem cs_X1_goOn_53 : cr_cs Y_X1_goOn Y_X1_skipQuietTicks 53 1 := ⟨cd_X1_skipQuietTicks, cr_in (i := 438) (by decide +kernel) rfl, cr_in (i := 37) (by decide +kernel) rfl, by decide +kernel, by decide +kernel, by decide +kernel⟩
theorem cm_X1_goOn_57 : Cond.methodLink (cr_nm Y_X1_goOn).cls 57 Lib.Math.max.name ∈ cr_tb := cr_in (i := 461) (by decide +kernel) rfl
theorem cs_X1_ticksTillOn_49 : cr_cs Y_X1_ticksTillOn Y_X1_passTick 49 0 := ⟨cd_X1_passTick, cr_in (i := 347) (by decide +kernel) rfl, cr_in (i := 37) (by decide +kernel) rfl, by decide +kernel, by decide +kernel, by decide +kernel⟩
theorem cs_X1_ticksTillOn_53 : cr_cs Y_X1_ticksTillOn Y_X1_skipQuietTicks 53 1 := ⟨cd_X1_skipQuietTicks, cr_in (i := 438) (by decide +kernel) rfl, cr_in (i := 37) (by decide +kernel) rfl, by decide +kernel, by decide +kernel, by decide +kernel⟩
theorem cm_X1_ticksTillOn_57 : Cond.methodLink (cr_nm Y_X1_ticksTillOn).cls 57 Lib.Math.max.name ∈ cr_tb := cr_in (i := 461) (by decide +kernel) rfl
theorem cs_X1_passTick_66 : cr_cs Y_X1_passTick Y_X2_addBusyTicks 66 1 := ⟨cd_X2_addBusyTicks, cr_in (i := 351) (by decide +kernel) rfl, cr_in (i := 38) (by decide +kernel) rfl, by decide +kernel, by decide +kernel, by decide +kernel⟩
theorem cs_X1_passTick_70 : cr_cs Y_X1_passTick Y_X1_endCalls 70 0 := ⟨cd_X1_endCalls, cr_in (i := 355) (by decide +kernel) rfl, cr_in (i := 37) (by decide +kernel) rfl, by decide +kernel, by decide +kernel, by decide +kernel⟩
theorem cs_X1_passTick_73 : cr_cs Y_X1_passTick Y_X2_endBreaks 73 1 := ⟨cd_X2_endBreaks, cr_in (i := 365) (by decide +kernel) rfl, cr_in (i := 38) (by decide +kernel) rfl, by decide +kernel, by decide +kernel, by decide +kernel⟩
theorem cs_X1_passTick_76 : cr_cs Y_X1_passTick Y_X0_ringBackDue 76 1 := ⟨cd_X0_ringBackDue, cr_in (i := 369) (by decide +kernel) rfl, cr_in (i := 39) (by decide +kernel) rfl, by decide +kernel, by decide +kernel, by decide +kernel⟩
theorem cs_X1_passTick_79 : cr_cs Y_X1_passTick Y_X0_loseImpatient 79 1 := ⟨cd_X0_loseImpatient, cr_in (i := 373) (by decide +kernel) rfl, cr_in (i := 39) (by decide +kernel) rfl, by decide +kernel, by decide +kernel, by decide +kernel⟩
theorem cs_X1_passTick_82 : cr_cs Y_X1_passTick Y_X1_giveAll 82 0 := ⟨cd_X1_giveAll, cr_in (i := 377) (by decide +kernel) rfl, cr_in (i := 37) (by decide +kernel) rfl, by decide +kernel, by decide +kernel, by decide +kernel⟩
theorem cs_X1_skipQuietTicks_85 : cr_cs Y_X1_skipQuietTicks Y_X1_nextChange 85 0 := ⟨cd_X1_nextChange, cr_in (i := 442) (by decide +kernel) rfl, cr_in (i := 37) (by decide +kernel) rfl, by decide +kernel, by decide +kernel, by decide +kernel⟩
theorem cm_X1_skipQuietTicks_88 : Cond.methodLink (cr_nm Y_X1_skipQuietTicks).cls 88 Lib.Math.min.name ∈ cr_tb := cr_in (i := 460) (by decide +kernel) rfl
theorem cm_X1_skipQuietTicks_57 : Cond.methodLink (cr_nm Y_X1_skipQuietTicks).cls 57 Lib.Math.max.name ∈ cr_tb := cr_in (i := 461) (by decide +kernel) rfl
theorem cs_X1_skipQuietTicks_66 : cr_cs Y_X1_skipQuietTicks Y_X2_addBusyTicks 66 1 := ⟨cd_X2_addBusyTicks, cr_in (i := 351) (by decide +kernel) rfl, cr_in (i := 38) (by decide +kernel) rfl, by decide +kernel, by decide +kernel, by decide +kernel⟩
theorem cs_X1_nextChange_91 : cr_cs Y_X1_nextChange Y_X2_nextBreakOver 91 0 := ⟨cd_X2_nextBreakOver, cr_in (i := 446) (by decide +kernel) rfl, cr_in (i := 38) (by decide +kernel) rfl, by decide +kernel, by decide +kernel, by decide +kernel⟩
theorem cs_X1_nextChange_97 : cr_cs Y_X1_nextChange Y_X0_nextChange 97 3 := ⟨cd_X0_nextChange, cr_in (i := 454) (by decide +kernel) rfl, cr_in (i := 39) (by decide +kernel) rfl, by decide +kernel, by decide +kernel, by decide +kernel⟩
theorem cm_X1_nextChange_88 : Cond.methodLink (cr_nm Y_X1_nextChange).cls 88 Lib.Math.min.name ∈ cr_tb := cr_in (i := 460) (by decide +kernel) rfl
theorem cs_X1_endCalls_106 : cr_cs Y_X1_endCalls Y_X1_endWith 106 1 := ⟨cd_X1_endWith, cr_in (i := 359) (by decide +kernel) rfl, cr_in (i := 37) (by decide +kernel) rfl, by decide +kernel, by decide +kernel, by decide +kernel⟩
theorem cs_X1_endWith_109 : cr_cs Y_X1_endWith Y_X2_has 109 1 := ⟨cd_X2_has, cr_in (i := 363) (by decide +kernel) rfl, cr_in (i := 38) (by decide +kernel) rfl, by decide +kernel, by decide +kernel, by decide +kernel⟩
theorem cs_X1_endWith_116 : cr_cs Y_X1_endWith Y_X2_letGo 116 2 := ⟨cd_X2_letGo, cr_in (i := 364) (by decide +kernel) rfl, cr_in (i := 38) (by decide +kernel) rfl, by decide +kernel, by decide +kernel, by decide +kernel⟩
theorem cs_X1_giveAll_120 : cr_cs Y_X1_giveAll Y_X1_nextToGive 120 0 := ⟨cd_X1_nextToGive, cr_in (i := 381) (by decide +kernel) rfl, cr_in (i := 37) (by decide +kernel) rfl, by decide +kernel, by decide +kernel, by decide +kernel⟩
theorem cs_X1_giveAll_123 : cr_cs Y_X1_giveAll Y_X0_has 123 1 := ⟨cd_X0_has, cr_in (i := 405) (by decide +kernel) rfl, cr_in (i := 39) (by decide +kernel) rfl, by decide +kernel, by decide +kernel, by decide +kernel⟩
theorem cs_X1_giveAll_124 : cr_cs Y_X1_giveAll Y_X1_bestHelper 124 1 := ⟨cd_X1_bestHelper, cr_in (i := 406) (by decide +kernel) rfl, cr_in (i := 37) (by decide +kernel) rfl, by decide +kernel, by decide +kernel, by decide +kernel⟩
theorem cs_X1_giveAll_109 : cr_cs Y_X1_giveAll Y_X2_has 109 1 := ⟨cd_X2_has, cr_in (i := 363) (by decide +kernel) rfl, cr_in (i := 38) (by decide +kernel) rfl, by decide +kernel, by decide +kernel, by decide +kernel⟩
theorem cs_X1_giveAll_127 : cr_cs Y_X1_giveAll Y_X1_give 127 2 := ⟨cd_X1_give, cr_in (i := 425) (by decide +kernel) rfl, cr_in (i := 37) (by decide +kernel) rfl, by decide +kernel, by decide +kernel, by decide +kernel⟩
theorem cs_X1_give_136 : cr_cs Y_X1_give Y_X2_gradeFor 136 2 := ⟨cd_X2_gradeFor, cr_in (i := 429) (by decide +kernel) rfl, cr_in (i := 38) (by decide +kernel) rfl, by decide +kernel, by decide +kernel, by decide +kernel⟩
theorem cs_X1_give_139 : cr_cs Y_X1_give Y_X0_start 139 4 := ⟨cd_X0_start, cr_in (i := 430) (by decide +kernel) rfl, cr_in (i := 39) (by decide +kernel) rfl, by decide +kernel, by decide +kernel, by decide +kernel⟩
theorem cs_X1_give_146 : cr_cs Y_X1_give Y_X2_take 146 3 := ⟨cd_X2_take, cr_in (i := 434) (by decide +kernel) rfl, cr_in (i := 38) (by decide +kernel) rfl, by decide +kernel, by decide +kernel, by decide +kernel⟩
theorem cs_X1_nextToGive_150 : cr_cs Y_X1_nextToGive Y_X1_countTakers 150 0 := ⟨cd_X1_countTakers, cr_in (i := 385) (by decide +kernel) rfl, cr_in (i := 37) (by decide +kernel) rfl, by decide +kernel, by decide +kernel, by decide +kernel⟩
theorem cs_X1_nextToGive_153 : cr_cs Y_X1_nextToGive Y_X1_isTakeable 153 1 := ⟨cd_X1_isTakeable, cr_in (i := 393) (by decide +kernel) rfl, cr_in (i := 37) (by decide +kernel) rfl, by decide +kernel, by decide +kernel, by decide +kernel⟩
theorem cs_X1_nextToGive_156 : cr_cs Y_X1_nextToGive Y_X1_rankOf 156 1 := ⟨cd_X1_rankOf, cr_in (i := 401) (by decide +kernel) rfl, cr_in (i := 37) (by decide +kernel) rfl, by decide +kernel, by decide +kernel, by decide +kernel⟩
theorem cs_X1_countTakers_166 : cr_cs Y_X1_countTakers Y_X2_canTake 166 3 := ⟨cd_X2_canTake, cr_in (i := 389) (by decide +kernel) rfl, cr_in (i := 38) (by decide +kernel) rfl, by decide +kernel, by decide +kernel, by decide +kernel⟩
theorem cs_X1_isTakeable_170 : cr_cs Y_X1_isTakeable Y_X1_isKeptForOwn 170 1 := ⟨cd_X1_isKeptForOwn, cr_in (i := 397) (by decide +kernel) rfl, cr_in (i := 37) (by decide +kernel) rfl, by decide +kernel, by decide +kernel, by decide +kernel⟩
theorem cs_X1_isTakeable_166 : cr_cs Y_X1_isTakeable Y_X2_canTake 166 3 := ⟨cd_X2_canTake, cr_in (i := 389) (by decide +kernel) rfl, cr_in (i := 38) (by decide +kernel) rfl, by decide +kernel, by decide +kernel, by decide +kernel⟩
theorem cs_X1_bestHelper_166 : cr_cs Y_X1_bestHelper Y_X2_canTake 166 3 := ⟨cd_X2_canTake, cr_in (i := 389) (by decide +kernel) rfl, cr_in (i := 38) (by decide +kernel) rfl, by decide +kernel, by decide +kernel, by decide +kernel⟩
theorem cs_X1_bestHelper_170 : cr_cs Y_X1_bestHelper Y_X1_isKeptForOwn 170 1 := ⟨cd_X1_isKeptForOwn, cr_in (i := 397) (by decide +kernel) rfl, cr_in (i := 37) (by decide +kernel) rfl, by decide +kernel, by decide +kernel, by decide +kernel⟩
theorem cs_X1_bestHelper_176 : cr_cs Y_X1_bestHelper Y_X2_isBetter 176 3 := ⟨cd_X2_isBetter, cr_in (i := 410) (by decide +kernel) rfl, cr_in (i := 38) (by decide +kernel) rfl, by decide +kernel, by decide +kernel, by decide +kernel⟩
theorem cs_X1_hindrance_180 : cr_cs Y_X1_hindrance Y_X2_someInHasGrade 180 1 := ⟨cd_X2_someInHasGrade, cr_in (i := 505) (by decide +kernel) rfl, cr_in (i := 38) (by decide +kernel) rfl, by decide +kernel, by decide +kernel, by decide +kernel⟩
theorem cs_X1_hindrance_183 : cr_cs Y_X1_hindrance Y_X2_someCanTake 183 2 := ⟨cd_X2_someCanTake, cr_in (i := 509) (by decide +kernel) rfl, cr_in (i := 38) (by decide +kernel) rfl, by decide +kernel, by decide +kernel, by decide +kernel⟩
theorem cs_X1_hindrance_170 : cr_cs Y_X1_hindrance Y_X1_isKeptForOwn 170 1 := ⟨cd_X1_isKeptForOwn, cr_in (i := 397) (by decide +kernel) rfl, cr_in (i := 37) (by decide +kernel) rfl, by decide +kernel, by decide +kernel, by decide +kernel⟩
theorem cs_X1_hindrance_166 : cr_cs Y_X1_hindrance Y_X2_canTake 166 3 := ⟨cd_X2_canTake, cr_in (i := 389) (by decide +kernel) rfl, cr_in (i := 38) (by decide +kernel) rfl, by decide +kernel, by decide +kernel, by decide +kernel⟩
theorem cs_X2_sortsOf_40 : cr_cs Y_X2_sortsOf Y_J_bit 40 1 := ⟨cd_J_bit, cr_in (i := 419) (by decide +kernel) rfl, cr_in (i := 42) (by decide +kernel) rfl, by decide +kernel, by decide +kernel, by decide +kernel⟩
theorem cs_X2_someCanTake_46 : cr_cs Y_X2_someCanTake Y_X2_canTake 46 3 := ⟨cd_X2_canTake, cr_in (i := 513) (by decide +kernel) rfl, cr_in (i := 38) (by decide +kernel) rfl, by decide +kernel, by decide +kernel, by decide +kernel⟩
theorem cs_X2_someInHasGrade_50 : cr_cs Y_X2_someInHasGrade Y_X2_gradeFor 50 2 := ⟨cd_X2_gradeFor, cr_in (i := 414) (by decide +kernel) rfl, cr_in (i := 38) (by decide +kernel) rfl, by decide +kernel, by decide +kernel, by decide +kernel⟩
theorem cs_X2_isBetter_50 : cr_cs Y_X2_isBetter Y_X2_gradeFor 50 2 := ⟨cd_X2_gradeFor, cr_in (i := 414) (by decide +kernel) rfl, cr_in (i := 38) (by decide +kernel) rfl, by decide +kernel, by decide +kernel, by decide +kernel⟩
theorem cs_X2_isBetter_54 : cr_cs Y_X2_isBetter Y_X2_sortsOf 54 1 := ⟨cd_X2_sortsOf, cr_in (i := 415) (by decide +kernel) rfl, cr_in (i := 38) (by decide +kernel) rfl, by decide +kernel, by decide +kernel, by decide +kernel⟩
theorem cs_X2_take_57 : cr_cs Y_X2_take Y_X2_become 57 3 := ⟨cd_X2_become, cr_in (i := 330) (by decide +kernel) rfl, cr_in (i := 38) (by decide +kernel) rfl, by decide +kernel, by decide +kernel, by decide +kernel⟩
theorem cs_X2_letGo_61 : cr_cs Y_X2_letGo Y_X2_has 61 1 := ⟨cd_X2_has, cr_in (i := 329) (by decide +kernel) rfl, cr_in (i := 38) (by decide +kernel) rfl, by decide +kernel, by decide +kernel, by decide +kernel⟩
theorem cs_X2_letGo_57 : cr_cs Y_X2_letGo Y_X2_become 57 3 := ⟨cd_X2_become, cr_in (i := 330) (by decide +kernel) rfl, cr_in (i := 38) (by decide +kernel) rfl, by decide +kernel, by decide +kernel, by decide +kernel⟩
theorem cs_X2_endBreaks_57 : cr_cs Y_X2_endBreaks Y_X2_become 57 3 := ⟨cd_X2_become, cr_in (i := 330) (by decide +kernel) rfl, cr_in (i := 38) (by decide +kernel) rfl, by decide +kernel, by decide +kernel, by decide +kernel⟩
theorem cm_X2_nextBreakOver_66 : Cond.methodLink (cr_nm Y_X2_nextBreakOver).cls 66 Lib.Math.min.name ∈ cr_tb := cr_in (i := 451) (by decide +kernel) rfl
theorem cm_X3_plan_18 : Cond.methodLink (cr_nm Y_X3_plan).cls 18 Lib.Math.max.name ∈ cr_tb := cr_in (i := 551) (by decide +kernel) rfl
theorem cm_X3_plan_24 : Cond.methodLink (cr_nm Y_X3_plan).cls 24 Lib.Math.min.name ∈ cr_tb := cr_in (i := 552) (by decide +kernel) rfl
theorem cs_X4_helper_30 : cr_cs Y_X4_helper Y_X4_refuse 30 1 := ⟨cd_X4_refuse, cr_in (i := 230) (by decide +kernel) rfl, cr_in (i := 36) (by decide +kernel) rfl, by decide +kernel, by decide +kernel, by decide +kernel⟩
theorem cs_X4_helper_47 : cr_cs Y_X4_helper Y_X2_add 47 2 := ⟨cd_X2_add, cr_in (i := 234) (by decide +kernel) rfl, cr_in (i := 38) (by decide +kernel) rfl, by decide +kernel, by decide +kernel, by decide +kernel⟩
theorem cs_X4_grade_51 : cr_cs Y_X4_grade Y_X2_has 51 1 := ⟨cd_X2_has, cr_in (i := 242) (by decide +kernel) rfl, cr_in (i := 38) (by decide +kernel) rfl, by decide +kernel, by decide +kernel, by decide +kernel⟩
theorem cs_X4_grade_55 : cr_cs Y_X4_grade Y_X4_isSort 55 1 := ⟨cd_X4_isSort, cr_in (i := 246) (by decide +kernel) rfl, cr_in (i := 36) (by decide +kernel) rfl, by decide +kernel, by decide +kernel, by decide +kernel⟩
theorem cs_X4_grade_30 : cr_cs Y_X4_grade Y_X4_refuse 30 1 := ⟨cd_X4_refuse, cr_in (i := 230) (by decide +kernel) rfl, cr_in (i := 36) (by decide +kernel) rfl, by decide +kernel, by decide +kernel, by decide +kernel⟩
theorem cs_X4_grade_58 : cr_cs Y_X4_grade Y_X4_outside 58 3 := ⟨cd_X4_outside, cr_in (i := 249) (by decide +kernel) rfl, cr_in (i := 36) (by decide +kernel) rfl, by decide +kernel, by decide +kernel, by decide +kernel⟩
theorem cs_X4_grade_62 : cr_cs Y_X4_grade Y_X2_gradeFor 62 2 := ⟨cd_X2_gradeFor, cr_in (i := 252) (by decide +kernel) rfl, cr_in (i := 38) (by decide +kernel) rfl, by decide +kernel, by decide +kernel, by decide +kernel⟩
theorem cs_X4_grade_65 : cr_cs Y_X4_grade Y_X2_setGrade 65 3 := ⟨cd_X2_setGrade, cr_in (i := 256) (by decide +kernel) rfl, cr_in (i := 38) (by decide +kernel) rfl, by decide +kernel, by decide +kernel, by decide +kernel⟩
theorem cs_X4_duty_51 : cr_cs Y_X4_duty Y_X2_has 51 1 := ⟨cd_X2_has, cr_in (i := 242) (by decide +kernel) rfl, cr_in (i := 38) (by decide +kernel) rfl, by decide +kernel, by decide +kernel, by decide +kernel⟩
theorem cs_X4_duty_30 : cr_cs Y_X4_duty Y_X4_refuse 30 1 := ⟨cd_X4_refuse, cr_in (i := 230) (by decide +kernel) rfl, cr_in (i := 36) (by decide +kernel) rfl, by decide +kernel, by decide +kernel, by decide +kernel⟩
theorem cs_X4_duty_72 : cr_cs Y_X4_duty Y_X2_become 72 3 := ⟨cd_X2_become, cr_in (i := 264) (by decide +kernel) rfl, cr_in (i := 38) (by decide +kernel) rfl, by decide +kernel, by decide +kernel, by decide +kernel⟩
theorem cs_X4_out_51 : cr_cs Y_X4_out Y_X2_has 51 1 := ⟨cd_X2_has, cr_in (i := 242) (by decide +kernel) rfl, cr_in (i := 38) (by decide +kernel) rfl, by decide +kernel, by decide +kernel, by decide +kernel⟩
theorem cs_X4_out_30 : cr_cs Y_X4_out Y_X4_refuse 30 1 := ⟨cd_X4_refuse, cr_in (i := 230) (by decide +kernel) rfl, cr_in (i := 36) (by decide +kernel) rfl, by decide +kernel, by decide +kernel, by decide +kernel⟩
theorem cs_X4_out_72 : cr_cs Y_X4_out Y_X2_become 72 3 := ⟨cd_X2_become, cr_in (i := 264) (by decide +kernel) rfl, cr_in (i := 38) (by decide +kernel) rfl, by decide +kernel, by decide +kernel, by decide +kernel⟩
theorem cs_X4_pause_51 : cr_cs Y_X4_pause Y_X2_has 51 1 := ⟨cd_X2_has, cr_in (i := 242) (by decide +kernel) rfl, cr_in (i := 38) (by decide +kernel) rfl, by decide +kernel, by decide +kernel, by decide +kernel⟩
theorem cs_X4_pause_30 : cr_cs Y_X4_pause Y_X4_refuse 30 1 := ⟨cd_X4_refuse, cr_in (i := 230) (by decide +kernel) rfl, cr_in (i := 36) (by decide +kernel) rfl, by decide +kernel, by decide +kernel, by decide +kernel⟩
theorem cs_X4_pause_58 : cr_cs Y_X4_pause Y_X4_outside 58 3 := ⟨cd_X4_outside, cr_in (i := 249) (by decide +kernel) rfl, cr_in (i := 36) (by decide +kernel) rfl, by decide +kernel, by decide +kernel, by decide +kernel⟩
theorem cs_X4_pause_72 : cr_cs Y_X4_pause Y_X2_become 72 3 := ⟨cd_X2_become, cr_in (i := 264) (by decide +kernel) rfl, cr_in (i := 38) (by decide +kernel) rfl, by decide +kernel, by decide +kernel, by decide +kernel⟩
theorem cs_X4_call_51 : cr_cs Y_X4_call Y_X2_has 51 1 := ⟨cd_X2_has, cr_in (i := 242) (by decide +kernel) rfl, cr_in (i := 38) (by decide +kernel) rfl, by decide +kernel, by decide +kernel, by decide +kernel⟩
theorem cs_X4_call_55 : cr_cs Y_X4_call Y_X4_isSort 55 1 := ⟨cd_X4_isSort, cr_in (i := 246) (by decide +kernel) rfl, cr_in (i := 36) (by decide +kernel) rfl, by decide +kernel, by decide +kernel, by decide +kernel⟩
theorem cs_X4_call_30 : cr_cs Y_X4_call Y_X4_refuse 30 1 := ⟨cd_X4_refuse, cr_in (i := 230) (by decide +kernel) rfl, cr_in (i := 36) (by decide +kernel) rfl, by decide +kernel, by decide +kernel, by decide +kernel⟩
theorem cs_X4_call_85 : cr_cs Y_X4_call Y_X0_add 85 2 := ⟨cd_X0_add, cr_in (i := 280) (by decide +kernel) rfl, cr_in (i := 39) (by decide +kernel) rfl, by decide +kernel, by decide +kernel, by decide +kernel⟩
theorem cs_X4_call_86 : cr_cs Y_X4_call Y_X0_describe 86 4 := ⟨cd_X0_describe, cr_in (i := 284) (by decide +kernel) rfl, cr_in (i := 39) (by decide +kernel) rfl, by decide +kernel, by decide +kernel, by decide +kernel⟩
theorem cs_X4_call_90 : cr_cs Y_X4_call Y_X0_arrive 90 2 := ⟨cd_X0_arrive, cr_in (i := 288) (by decide +kernel) rfl, cr_in (i := 39) (by decide +kernel) rfl, by decide +kernel, by decide +kernel, by decide +kernel⟩
theorem cs_X4_rule_30 : cr_cs Y_X4_rule Y_X4_refuse 30 1 := ⟨cd_X4_refuse, cr_in (i := 230) (by decide +kernel) rfl, cr_in (i := 36) (by decide +kernel) rfl, by decide +kernel, by decide +kernel, by decide +kernel⟩
theorem cs_X4_prefer_58 : cr_cs Y_X4_prefer Y_X4_outside 58 3 := ⟨cd_X4_outside, cr_in (i := 249) (by decide +kernel) rfl, cr_in (i := 36) (by decide +kernel) rfl, by decide +kernel, by decide +kernel, by decide +kernel⟩
theorem cs_X4_prefer_30 : cr_cs Y_X4_prefer Y_X4_refuse 30 1 := ⟨cd_X4_refuse, cr_in (i := 230) (by decide +kernel) rfl, cr_in (i := 36) (by decide +kernel) rfl, by decide +kernel, by decide +kernel, by decide +kernel⟩
theorem cs_X4_ring_100 : cr_cs Y_X4_ring Y_X4_notWaiting 100 1 := ⟨cd_X4_notWaiting, cr_in (i := 308) (by decide +kernel) rfl, cr_in (i := 36) (by decide +kernel) rfl, by decide +kernel, by decide +kernel, by decide +kernel⟩
theorem cs_X4_ring_58 : cr_cs Y_X4_ring Y_X4_outside 58 3 := ⟨cd_X4_outside, cr_in (i := 249) (by decide +kernel) rfl, cr_in (i := 36) (by decide +kernel) rfl, by decide +kernel, by decide +kernel, by decide +kernel⟩
theorem cs_X4_ring_30 : cr_cs Y_X4_ring Y_X4_refuse 30 1 := ⟨cd_X4_refuse, cr_in (i := 230) (by decide +kernel) rfl, cr_in (i := 36) (by decide +kernel) rfl, by decide +kernel, by decide +kernel, by decide +kernel⟩
theorem cs_X4_ring_103 : cr_cs Y_X4_ring Y_X0_putBack 103 2 := ⟨cd_X0_putBack, cr_in (i := 316) (by decide +kernel) rfl, cr_in (i := 39) (by decide +kernel) rfl, by decide +kernel, by decide +kernel, by decide +kernel⟩
theorem cs_X4_pass_106 : cr_cs Y_X4_pass Y_X0_has 106 1 := ⟨cd_X0_has, cr_in (i := 312) (by decide +kernel) rfl, cr_in (i := 39) (by decide +kernel) rfl, by decide +kernel, by decide +kernel, by decide +kernel⟩
theorem cs_X4_pass_55 : cr_cs Y_X4_pass Y_X4_isSort 55 1 := ⟨cd_X4_isSort, cr_in (i := 246) (by decide +kernel) rfl, cr_in (i := 36) (by decide +kernel) rfl, by decide +kernel, by decide +kernel, by decide +kernel⟩
theorem cs_X4_pass_30 : cr_cs Y_X4_pass Y_X4_refuse 30 1 := ⟨cd_X4_refuse, cr_in (i := 230) (by decide +kernel) rfl, cr_in (i := 36) (by decide +kernel) rfl, by decide +kernel, by decide +kernel, by decide +kernel⟩
theorem cs_X4_pass_58 : cr_cs Y_X4_pass Y_X4_outside 58 3 := ⟨cd_X4_outside, cr_in (i := 249) (by decide +kernel) rfl, cr_in (i := 36) (by decide +kernel) rfl, by decide +kernel, by decide +kernel, by decide +kernel⟩
theorem cs_X4_pass_86 : cr_cs Y_X4_pass Y_X0_describe 86 4 := ⟨cd_X0_describe, cr_in (i := 284) (by decide +kernel) rfl, cr_in (i := 39) (by decide +kernel) rfl, by decide +kernel, by decide +kernel, by decide +kernel⟩
theorem cs_X4_pass_114 : cr_cs Y_X4_pass Y_X0_waitAgain 114 2 := ⟨cd_X0_waitAgain, cr_in (i := 324) (by decide +kernel) rfl, cr_in (i := 39) (by decide +kernel) rfl, by decide +kernel, by decide +kernel, by decide +kernel⟩
theorem cs_X4_pass_117 : cr_cs Y_X4_pass Y_X2_letGo 117 2 := ⟨cd_X2_letGo, cr_in (i := 325) (by decide +kernel) rfl, cr_in (i := 38) (by decide +kernel) rfl, by decide +kernel, by decide +kernel, by decide +kernel⟩
theorem cs_X4_leave_106 : cr_cs Y_X4_leave Y_X0_has 106 1 := ⟨cd_X0_has, cr_in (i := 312) (by decide +kernel) rfl, cr_in (i := 39) (by decide +kernel) rfl, by decide +kernel, by decide +kernel, by decide +kernel⟩
theorem cs_X4_leave_30 : cr_cs Y_X4_leave Y_X4_refuse 30 1 := ⟨cd_X4_refuse, cr_in (i := 230) (by decide +kernel) rfl, cr_in (i := 36) (by decide +kernel) rfl, by decide +kernel, by decide +kernel, by decide +kernel⟩
theorem cs_X4_urge_100 : cr_cs Y_X4_urge Y_X4_notWaiting 100 1 := ⟨cd_X4_notWaiting, cr_in (i := 308) (by decide +kernel) rfl, cr_in (i := 36) (by decide +kernel) rfl, by decide +kernel, by decide +kernel, by decide +kernel⟩
theorem cs_X4_urge_30 : cr_cs Y_X4_urge Y_X4_refuse 30 1 := ⟨cd_X4_refuse, cr_in (i := 230) (by decide +kernel) rfl, cr_in (i := 36) (by decide +kernel) rfl, by decide +kernel, by decide +kernel, by decide +kernel⟩
theorem cs_X4_ticks_58 : cr_cs Y_X4_ticks Y_X4_outside 58 3 := ⟨cd_X4_outside, cr_in (i := 249) (by decide +kernel) rfl, cr_in (i := 36) (by decide +kernel) rfl, by decide +kernel, by decide +kernel, by decide +kernel⟩
theorem cs_X4_ticks_30 : cr_cs Y_X4_ticks Y_X4_refuse 30 1 := ⟨cd_X4_refuse, cr_in (i := 230) (by decide +kernel) rfl, cr_in (i := 36) (by decide +kernel) rfl, by decide +kernel, by decide +kernel, by decide +kernel⟩
theorem cs_X4_ticks_126 : cr_cs Y_X4_ticks Y_X1_goOn 126 1 := ⟨cd_X1_goOn, cr_in (i := 343) (by decide +kernel) rfl, cr_in (i := 37) (by decide +kernel) rfl, by decide +kernel, by decide +kernel, by decide +kernel⟩
theorem cs_X4_wait_100 : cr_cs Y_X4_wait Y_X4_notWaiting 100 1 := ⟨cd_X4_notWaiting, cr_in (i := 308) (by decide +kernel) rfl, cr_in (i := 36) (by decide +kernel) rfl, by decide +kernel, by decide +kernel, by decide +kernel⟩
theorem cs_X4_wait_30 : cr_cs Y_X4_wait Y_X4_refuse 30 1 := ⟨cd_X4_refuse, cr_in (i := 230) (by decide +kernel) rfl, cr_in (i := 36) (by decide +kernel) rfl, by decide +kernel, by decide +kernel, by decide +kernel⟩
theorem cs_X4_wait_129 : cr_cs Y_X4_wait Y_X1_copyFrom 129 1 := ⟨cd_X1_copyFrom, cr_in (i := 468) (by decide +kernel) rfl, cr_in (i := 37) (by decide +kernel) rfl, by decide +kernel, by decide +kernel, by decide +kernel⟩
theorem cs_X4_wait_133 : cr_cs Y_X4_wait Y_X1_ticksTillOn 133 1 := ⟨cd_X1_ticksTillOn, cr_in (i := 484) (by decide +kernel) rfl, cr_in (i := 37) (by decide +kernel) rfl, by decide +kernel, by decide +kernel, by decide +kernel⟩
theorem cs_X4_who_100 : cr_cs Y_X4_who Y_X4_notWaiting 100 1 := ⟨cd_X4_notWaiting, cr_in (i := 308) (by decide +kernel) rfl, cr_in (i := 36) (by decide +kernel) rfl, by decide +kernel, by decide +kernel, by decide +kernel⟩
theorem cs_X4_who_30 : cr_cs Y_X4_who Y_X4_refuse 30 1 := ⟨cd_X4_refuse, cr_in (i := 230) (by decide +kernel) rfl, cr_in (i := 36) (by decide +kernel) rfl, by decide +kernel, by decide +kernel, by decide +kernel⟩
theorem cs_X4_who_136 : cr_cs Y_X4_who Y_X4_helperIfGivenNow 136 1 := ⟨cd_X4_helperIfGivenNow, cr_in (i := 492) (by decide +kernel) rfl, cr_in (i := 36) (by decide +kernel) rfl, by decide +kernel, by decide +kernel, by decide +kernel⟩
theorem cs_X4_why_100 : cr_cs Y_X4_why Y_X4_notWaiting 100 1 := ⟨cd_X4_notWaiting, cr_in (i := 308) (by decide +kernel) rfl, cr_in (i := 36) (by decide +kernel) rfl, by decide +kernel, by decide +kernel, by decide +kernel⟩
theorem cs_X4_why_30 : cr_cs Y_X4_why Y_X4_refuse 30 1 := ⟨cd_X4_refuse, cr_in (i := 230) (by decide +kernel) rfl, cr_in (i := 36) (by decide +kernel) rfl, by decide +kernel, by decide +kernel, by decide +kernel⟩
theorem cs_X4_why_136 : cr_cs Y_X4_why Y_X4_helperIfGivenNow 136 1 := ⟨cd_X4_helperIfGivenNow, cr_in (i := 492) (by decide +kernel) rfl, cr_in (i := 36) (by decide +kernel) rfl, by decide +kernel, by decide +kernel, by decide +kernel⟩
theorem cs_X4_why_139 : cr_cs Y_X4_why Y_X1_hindrance 139 1 := ⟨cd_X1_hindrance, cr_in (i := 501) (by decide +kernel) rfl, cr_in (i := 37) (by decide +kernel) rfl, by decide +kernel, by decide +kernel, by decide +kernel⟩
theorem cs_X4_within_30 : cr_cs Y_X4_within Y_X4_refuse 30 1 := ⟨cd_X4_refuse, cr_in (i := 230) (by decide +kernel) rfl, cr_in (i := 36) (by decide +kernel) rfl, by decide +kernel, by decide +kernel, by decide +kernel⟩
theorem cs_X4_within_142 : cr_cs Y_X4_within Y_X0_givenWithin 142 1 := ⟨cd_X0_givenWithin, cr_in (i := 518) (by decide +kernel) rfl, cr_in (i := 39) (by decide +kernel) rfl, by decide +kernel, by decide +kernel, by decide +kernel⟩
theorem cs_X4_loss_30 : cr_cs Y_X4_loss Y_X4_refuse 30 1 := ⟨cd_X4_refuse, cr_in (i := 230) (by decide +kernel) rfl, cr_in (i := 36) (by decide +kernel) rfl, by decide +kernel, by decide +kernel, by decide +kernel⟩
theorem cs_X4_loss_147 : cr_cs Y_X4_loss Y_X4_lossWithOneMore 147 3 := ⟨cd_X4_lossWithOneMore, cr_in (i := 527) (by decide +kernel) rfl, cr_in (i := 36) (by decide +kernel) rfl, by decide +kernel, by decide +kernel, by decide +kernel⟩
theorem cs_X4_wanted_30 : cr_cs Y_X4_wanted Y_X4_refuse 30 1 := ⟨cd_X4_refuse, cr_in (i := 230) (by decide +kernel) rfl, cr_in (i := 36) (by decide +kernel) rfl, by decide +kernel, by decide +kernel, by decide +kernel⟩
theorem cs_X4_wanted_147 : cr_cs Y_X4_wanted Y_X4_lossWithOneMore 147 3 := ⟨cd_X4_lossWithOneMore, cr_in (i := 527) (by decide +kernel) rfl, cr_in (i := 36) (by decide +kernel) rfl, by decide +kernel, by decide +kernel, by decide +kernel⟩
theorem cs_X4_want_152 : cr_cs Y_X4_want Y_X4_isQuarter 152 1 := ⟨cd_X4_isQuarter, cr_in (i := 540) (by decide +kernel) rfl, cr_in (i := 36) (by decide +kernel) rfl, by decide +kernel, by decide +kernel, by decide +kernel⟩
theorem cs_X4_want_30 : cr_cs Y_X4_want Y_X4_refuse 30 1 := ⟨cd_X4_refuse, cr_in (i := 230) (by decide +kernel) rfl, cr_in (i := 36) (by decide +kernel) rfl, by decide +kernel, by decide +kernel, by decide +kernel⟩
theorem cs_X4_want_58 : cr_cs Y_X4_want Y_X4_outside 58 3 := ⟨cd_X4_outside, cr_in (i := 249) (by decide +kernel) rfl, cr_in (i := 36) (by decide +kernel) rfl, by decide +kernel, by decide +kernel, by decide +kernel⟩
theorem cs_X4_cover_58 : cr_cs Y_X4_cover Y_X4_outside 58 3 := ⟨cd_X4_outside, cr_in (i := 249) (by decide +kernel) rfl, cr_in (i := 36) (by decide +kernel) rfl, by decide +kernel, by decide +kernel, by decide +kernel⟩
theorem cs_X4_cover_30 : cr_cs Y_X4_cover Y_X4_refuse 30 1 := ⟨cd_X4_refuse, cr_in (i := 230) (by decide +kernel) rfl, cr_in (i := 36) (by decide +kernel) rfl, by decide +kernel, by decide +kernel, by decide +kernel⟩
theorem cs_X4_cover_158 : cr_cs Y_X4_cover Y_X3_plan 158 1 := ⟨cd_X3_plan, cr_in (i := 547) (by decide +kernel) rfl, cr_in (i := 40) (by decide +kernel) rfl, by decide +kernel, by decide +kernel, by decide +kernel⟩
theorem cs_X4_begins_152 : cr_cs Y_X4_begins Y_X4_isQuarter 152 1 := ⟨cd_X4_isQuarter, cr_in (i := 540) (by decide +kernel) rfl, cr_in (i := 36) (by decide +kernel) rfl, by decide +kernel, by decide +kernel, by decide +kernel⟩
theorem cs_X4_begins_30 : cr_cs Y_X4_begins Y_X4_refuse 30 1 := ⟨cd_X4_refuse, cr_in (i := 230) (by decide +kernel) rfl, cr_in (i := 36) (by decide +kernel) rfl, by decide +kernel, by decide +kernel, by decide +kernel⟩
theorem cs_X4_helperOf_51 : cr_cs Y_X4_helperOf Y_X2_has 51 1 := ⟨cd_X2_has, cr_in (i := 242) (by decide +kernel) rfl, cr_in (i := 38) (by decide +kernel) rfl, by decide +kernel, by decide +kernel, by decide +kernel⟩
theorem cs_X4_helperOf_30 : cr_cs Y_X4_helperOf Y_X4_refuse 30 1 := ⟨cd_X4_refuse, cr_in (i := 230) (by decide +kernel) rfl, cr_in (i := 36) (by decide +kernel) rfl, by decide +kernel, by decide +kernel, by decide +kernel⟩
theorem cs_X4_helperOf_167 : cr_cs Y_X4_helperOf Y_X0_firstWith 167 1 := ⟨cd_X0_firstWith, cr_in (i := 561) (by decide +kernel) rfl, cr_in (i := 39) (by decide +kernel) rfl, by decide +kernel, by decide +kernel, by decide +kernel⟩
theorem cs_X4_helperOf_62 : cr_cs Y_X4_helperOf Y_X2_gradeFor 62 2 := ⟨cd_X2_gradeFor, cr_in (i := 252) (by decide +kernel) rfl, cr_in (i := 38) (by decide +kernel) rfl, by decide +kernel, by decide +kernel, by decide +kernel⟩
theorem cs_X4_callOf_106 : cr_cs Y_X4_callOf Y_X0_has 106 1 := ⟨cd_X0_has, cr_in (i := 312) (by decide +kernel) rfl, cr_in (i := 39) (by decide +kernel) rfl, by decide +kernel, by decide +kernel, by decide +kernel⟩
theorem cs_X4_callOf_30 : cr_cs Y_X4_callOf Y_X4_refuse 30 1 := ⟨cd_X4_refuse, cr_in (i := 230) (by decide +kernel) rfl, cr_in (i := 36) (by decide +kernel) rfl, by decide +kernel, by decide +kernel, by decide +kernel⟩
theorem cs_X4_count_195 : cr_cs Y_X4_count Y_X0_countDoing 195 1 := ⟨cd_X0_countDoing, cr_in (i := 573) (by decide +kernel) rfl, cr_in (i := 39) (by decide +kernel) rfl, by decide +kernel, by decide +kernel, by decide +kernel⟩
theorem cs_X4_count_198 : cr_cs Y_X4_count Y_X2_countFree 198 0 := ⟨cd_X2_countFree, cr_in (i := 577) (by decide +kernel) rfl, cr_in (i := 38) (by decide +kernel) rfl, by decide +kernel, by decide +kernel, by decide +kernel⟩
theorem cs_X4_notWaiting_106 : cr_cs Y_X4_notWaiting Y_X0_has 106 1 := ⟨cd_X0_has, cr_in (i := 312) (by decide +kernel) rfl, cr_in (i := 39) (by decide +kernel) rfl, by decide +kernel, by decide +kernel, by decide +kernel⟩
theorem cs_X4_helperIfGivenNow_129 : cr_cs Y_X4_helperIfGivenNow Y_X1_copyFrom 129 1 := ⟨cd_X1_copyFrom, cr_in (i := 468) (by decide +kernel) rfl, cr_in (i := 37) (by decide +kernel) rfl, by decide +kernel, by decide +kernel, by decide +kernel⟩
theorem cs_X4_helperIfGivenNow_202 : cr_cs Y_X4_helperIfGivenNow Y_X1_giveAll 202 0 := ⟨cd_X1_giveAll, cr_in (i := 496) (by decide +kernel) rfl, cr_in (i := 37) (by decide +kernel) rfl, by decide +kernel, by decide +kernel, by decide +kernel⟩
theorem cs_X5_helper_120 : cr_cs Y_X5_helper Y_X5_refuse 120 1 := ⟨cd_X5_refuse, cr_in (i := 716) (by decide +kernel) rfl, cr_in (i := 41) (by decide +kernel) rfl, by decide +kernel, by decide +kernel, by decide +kernel⟩
theorem cs_X5_grade_130 : cr_cs Y_X5_grade Y_X5_isIn 130 2 := ⟨cd_X5_isIn, cr_in (i := 724) (by decide +kernel) rfl, cr_in (i := 41) (by decide +kernel) rfl, by decide +kernel, by decide +kernel, by decide +kernel⟩
theorem cs_X5_grade_120 : cr_cs Y_X5_grade Y_X5_refuse 120 1 := ⟨cd_X5_refuse, cr_in (i := 716) (by decide +kernel) rfl, cr_in (i := 41) (by decide +kernel) rfl, by decide +kernel, by decide +kernel, by decide +kernel⟩
theorem cs_X5_grade_134 : cr_cs Y_X5_grade Y_X5_gradeOf 134 2 := ⟨cd_X5_gradeOf, cr_in (i := 727) (by decide +kernel) rfl, cr_in (i := 41) (by decide +kernel) rfl, by decide +kernel, by decide +kernel, by decide +kernel⟩
theorem cs_X5_duty_130 : cr_cs Y_X5_duty Y_X5_isIn 130 2 := ⟨cd_X5_isIn, cr_in (i := 724) (by decide +kernel) rfl, cr_in (i := 41) (by decide +kernel) rfl, by decide +kernel, by decide +kernel, by decide +kernel⟩
theorem cs_X5_duty_120 : cr_cs Y_X5_duty Y_X5_refuse 120 1 := ⟨cd_X5_refuse, cr_in (i := 716) (by decide +kernel) rfl, cr_in (i := 41) (by decide +kernel) rfl, by decide +kernel, by decide +kernel, by decide +kernel⟩
theorem cs_X5_duty_138 : cr_cs Y_X5_duty Y_X5_becomes 138 2 := ⟨cd_X5_becomes, cr_in (i := 735) (by decide +kernel) rfl, cr_in (i := 41) (by decide +kernel) rfl, by decide +kernel, by decide +kernel, by decide +kernel⟩
theorem cs_X5_out_130 : cr_cs Y_X5_out Y_X5_isIn 130 2 := ⟨cd_X5_isIn, cr_in (i := 724) (by decide +kernel) rfl, cr_in (i := 41) (by decide +kernel) rfl, by decide +kernel, by decide +kernel, by decide +kernel⟩
theorem cs_X5_out_120 : cr_cs Y_X5_out Y_X5_refuse 120 1 := ⟨cd_X5_refuse, cr_in (i := 716) (by decide +kernel) rfl, cr_in (i := 41) (by decide +kernel) rfl, by decide +kernel, by decide +kernel, by decide +kernel⟩
theorem cs_X5_out_138 : cr_cs Y_X5_out Y_X5_becomes 138 2 := ⟨cd_X5_becomes, cr_in (i := 735) (by decide +kernel) rfl, cr_in (i := 41) (by decide +kernel) rfl, by decide +kernel, by decide +kernel, by decide +kernel⟩
theorem cs_X5_pause_130 : cr_cs Y_X5_pause Y_X5_isIn 130 2 := ⟨cd_X5_isIn, cr_in (i := 724) (by decide +kernel) rfl, cr_in (i := 41) (by decide +kernel) rfl, by decide +kernel, by decide +kernel, by decide +kernel⟩
theorem cs_X5_pause_120 : cr_cs Y_X5_pause Y_X5_refuse 120 1 := ⟨cd_X5_refuse, cr_in (i := 716) (by decide +kernel) rfl, cr_in (i := 41) (by decide +kernel) rfl, by decide +kernel, by decide +kernel, by decide +kernel⟩
theorem cs_X5_pause_138 : cr_cs Y_X5_pause Y_X5_becomes 138 2 := ⟨cd_X5_becomes, cr_in (i := 735) (by decide +kernel) rfl, cr_in (i := 41) (by decide +kernel) rfl, by decide +kernel, by decide +kernel, by decide +kernel⟩
theorem cs_X5_call_130 : cr_cs Y_X5_call Y_X5_isIn 130 2 := ⟨cd_X5_isIn, cr_in (i := 724) (by decide +kernel) rfl, cr_in (i := 41) (by decide +kernel) rfl, by decide +kernel, by decide +kernel, by decide +kernel⟩
theorem cs_X5_call_120 : cr_cs Y_X5_call Y_X5_refuse 120 1 := ⟨cd_X5_refuse, cr_in (i := 716) (by decide +kernel) rfl, cr_in (i := 41) (by decide +kernel) rfl, by decide +kernel, by decide +kernel, by decide +kernel⟩
theorem cs_X5_rule_130 : cr_cs Y_X5_rule Y_X5_isIn 130 2 := ⟨cd_X5_isIn, cr_in (i := 724) (by decide +kernel) rfl, cr_in (i := 41) (by decide +kernel) rfl, by decide +kernel, by decide +kernel, by decide +kernel⟩
theorem cs_X5_rule_120 : cr_cs Y_X5_rule Y_X5_refuse 120 1 := ⟨cd_X5_refuse, cr_in (i := 716) (by decide +kernel) rfl, cr_in (i := 41) (by decide +kernel) rfl, by decide +kernel, by decide +kernel, by decide +kernel⟩
theorem cs_X5_prefer_120 : cr_cs Y_X5_prefer Y_X5_refuse 120 1 := ⟨cd_X5_refuse, cr_in (i := 716) (by decide +kernel) rfl, cr_in (i := 41) (by decide +kernel) rfl, by decide +kernel, by decide +kernel, by decide +kernel⟩
theorem cs_X5_ring_130 : cr_cs Y_X5_ring Y_X5_isIn 130 2 := ⟨cd_X5_isIn, cr_in (i := 724) (by decide +kernel) rfl, cr_in (i := 41) (by decide +kernel) rfl, by decide +kernel, by decide +kernel, by decide +kernel⟩
theorem cs_X5_ring_120 : cr_cs Y_X5_ring Y_X5_refuse 120 1 := ⟨cd_X5_refuse, cr_in (i := 716) (by decide +kernel) rfl, cr_in (i := 41) (by decide +kernel) rfl, by decide +kernel, by decide +kernel, by decide +kernel⟩
theorem cs_X5_loses_138 : cr_cs Y_X5_loses Y_X5_becomes 138 2 := ⟨cd_X5_becomes, cr_in (i := 735) (by decide +kernel) rfl, cr_in (i := 41) (by decide +kernel) rfl, by decide +kernel, by decide +kernel, by decide +kernel⟩
theorem cs_X5_pass_130 : cr_cs Y_X5_pass Y_X5_isIn 130 2 := ⟨cd_X5_isIn, cr_in (i := 724) (by decide +kernel) rfl, cr_in (i := 41) (by decide +kernel) rfl, by decide +kernel, by decide +kernel, by decide +kernel⟩
theorem cs_X5_pass_120 : cr_cs Y_X5_pass Y_X5_refuse 120 1 := ⟨cd_X5_refuse, cr_in (i := 716) (by decide +kernel) rfl, cr_in (i := 41) (by decide +kernel) rfl, by decide +kernel, by decide +kernel, by decide +kernel⟩
theorem cs_X5_pass_148 : cr_cs Y_X5_pass Y_X5_loses 148 1 := ⟨cd_X5_loses, cr_in (i := 767) (by decide +kernel) rfl, cr_in (i := 41) (by decide +kernel) rfl, by decide +kernel, by decide +kernel, by decide +kernel⟩
theorem cs_X5_leave_130 : cr_cs Y_X5_leave Y_X5_isIn 130 2 := ⟨cd_X5_isIn, cr_in (i := 724) (by decide +kernel) rfl, cr_in (i := 41) (by decide +kernel) rfl, by decide +kernel, by decide +kernel, by decide +kernel⟩
theorem cs_X5_leave_120 : cr_cs Y_X5_leave Y_X5_refuse 120 1 := ⟨cd_X5_refuse, cr_in (i := 716) (by decide +kernel) rfl, cr_in (i := 41) (by decide +kernel) rfl, by decide +kernel, by decide +kernel, by decide +kernel⟩
theorem cs_X5_urge_130 : cr_cs Y_X5_urge Y_X5_isIn 130 2 := ⟨cd_X5_isIn, cr_in (i := 724) (by decide +kernel) rfl, cr_in (i := 41) (by decide +kernel) rfl, by decide +kernel, by decide +kernel, by decide +kernel⟩
theorem cs_X5_urge_120 : cr_cs Y_X5_urge Y_X5_refuse 120 1 := ⟨cd_X5_refuse, cr_in (i := 716) (by decide +kernel) rfl, cr_in (i := 41) (by decide +kernel) rfl, by decide +kernel, by decide +kernel, by decide +kernel⟩
theorem cs_X5_may_134 : cr_cs Y_X5_may Y_X5_gradeOf 134 2 := ⟨cd_X5_gradeOf, cr_in (i := 727) (by decide +kernel) rfl, cr_in (i := 41) (by decide +kernel) rfl, by decide +kernel, by decide +kernel, by decide +kernel⟩
theorem cs_X5_may_152 : cr_cs Y_X5_may Y_X5_hasRoom 152 1 := ⟨cd_X5_hasRoom, cr_in (i := 807) (by decide +kernel) rfl, cr_in (i := 41) (by decide +kernel) rfl, by decide +kernel, by decide +kernel, by decide +kernel⟩
theorem cs_X5_may_156 : cr_cs Y_X5_may Y_X5_waitedOf 156 1 := ⟨cd_X5_waitedOf, cr_in (i := 787) (by decide +kernel) rfl, cr_in (i := 41) (by decide +kernel) rfl, by decide +kernel, by decide +kernel, by decide +kernel⟩
theorem cs_X5_isTakeable_159 : cr_cs Y_X5_isTakeable Y_X5_may 159 2 := ⟨cd_X5_may, cr_in (i := 803) (by decide +kernel) rfl, cr_in (i := 41) (by decide +kernel) rfl, by decide +kernel, by decide +kernel, by decide +kernel⟩
theorem cs_X5_freeFor_134 : cr_cs Y_X5_freeFor Y_X5_gradeOf 134 2 := ⟨cd_X5_gradeOf, cr_in (i := 727) (by decide +kernel) rfl, cr_in (i := 41) (by decide +kernel) rfl, by decide +kernel, by decide +kernel, by decide +kernel⟩
theorem cs_X5_rankOf_162 : cr_cs Y_X5_rankOf Y_X5_freeFor 162 1 := ⟨cd_X5_freeFor, cr_in (i := 815) (by decide +kernel) rfl, cr_in (i := 41) (by decide +kernel) rfl, by decide +kernel, by decide +kernel, by decide +kernel⟩
theorem cs_X5_rankOf_156 : cr_cs Y_X5_rankOf Y_X5_waitedOf 156 1 := ⟨cd_X5_waitedOf, cr_in (i := 787) (by decide +kernel) rfl, cr_in (i := 41) (by decide +kernel) rfl, by decide +kernel, by decide +kernel, by decide +kernel⟩
theorem cs_X5_nextCall_165 : cr_cs Y_X5_nextCall Y_X5_isTakeable 165 1 := ⟨cd_X5_isTakeable, cr_in (i := 799) (by decide +kernel) rfl, cr_in (i := 41) (by decide +kernel) rfl, by decide +kernel, by decide +kernel, by decide +kernel⟩
theorem cs_X5_nextCall_168 : cr_cs Y_X5_nextCall Y_X5_rankOf 168 1 := ⟨cd_X5_rankOf, cr_in (i := 811) (by decide +kernel) rfl, cr_in (i := 41) (by decide +kernel) rfl, by decide +kernel, by decide +kernel, by decide +kernel⟩
theorem cs_X5_sortsOf_134 : cr_cs Y_X5_sortsOf Y_X5_gradeOf 134 2 := ⟨cd_X5_gradeOf, cr_in (i := 727) (by decide +kernel) rfl, cr_in (i := 41) (by decide +kernel) rfl, by decide +kernel, by decide +kernel, by decide +kernel⟩
theorem cs_X5_isAhead_134 : cr_cs Y_X5_isAhead Y_X5_gradeOf 134 2 := ⟨cd_X5_gradeOf, cr_in (i := 727) (by decide +kernel) rfl, cr_in (i := 41) (by decide +kernel) rfl, by decide +kernel, by decide +kernel, by decide +kernel⟩
theorem cs_X5_isAhead_171 : cr_cs Y_X5_isAhead Y_X5_sortsOf 171 1 := ⟨cd_X5_sortsOf, cr_in (i := 827) (by decide +kernel) rfl, cr_in (i := 41) (by decide +kernel) rfl, by decide +kernel, by decide +kernel, by decide +kernel⟩
theorem cs_X5_helperFor_159 : cr_cs Y_X5_helperFor Y_X5_may 159 2 := ⟨cd_X5_may, cr_in (i := 803) (by decide +kernel) rfl, cr_in (i := 41) (by decide +kernel) rfl, by decide +kernel, by decide +kernel, by decide +kernel⟩
theorem cs_X5_helperFor_174 : cr_cs Y_X5_helperFor Y_X5_isAhead 174 3 := ⟨cd_X5_isAhead, cr_in (i := 823) (by decide +kernel) rfl, cr_in (i := 41) (by decide +kernel) rfl, by decide +kernel, by decide +kernel, by decide +kernel⟩
theorem cs_X5_give_178 : cr_cs Y_X5_give Y_X5_nextCall 178 0 := ⟨cd_X5_nextCall, cr_in (i := 795) (by decide +kernel) rfl, cr_in (i := 41) (by decide +kernel) rfl, by decide +kernel, by decide +kernel, by decide +kernel⟩
theorem cs_X5_give_182 : cr_cs Y_X5_give Y_X5_helperFor 182 1 := ⟨cd_X5_helperFor, cr_in (i := 819) (by decide +kernel) rfl, cr_in (i := 41) (by decide +kernel) rfl, by decide +kernel, by decide +kernel, by decide +kernel⟩
theorem cs_X5_give_156 : cr_cs Y_X5_give Y_X5_waitedOf 156 1 := ⟨cd_X5_waitedOf, cr_in (i := 787) (by decide +kernel) rfl, cr_in (i := 41) (by decide +kernel) rfl, by decide +kernel, by decide +kernel, by decide +kernel⟩
theorem cs_X5_give_134 : cr_cs Y_X5_give Y_X5_gradeOf 134 2 := ⟨cd_X5_gradeOf, cr_in (i := 727) (by decide +kernel) rfl, cr_in (i := 41) (by decide +kernel) rfl, by decide +kernel, by decide +kernel, by decide +kernel⟩
theorem cs_X5_give_138 : cr_cs Y_X5_give Y_X5_becomes 138 2 := ⟨cd_X5_becomes, cr_in (i := 735) (by decide +kernel) rfl, cr_in (i := 41) (by decide +kernel) rfl, by decide +kernel, by decide +kernel, by decide +kernel⟩
theorem cs_X5_goesOn_148 : cr_cs Y_X5_goesOn Y_X5_loses 148 1 := ⟨cd_X5_loses, cr_in (i := 767) (by decide +kernel) rfl, cr_in (i := 41) (by decide +kernel) rfl, by decide +kernel, by decide +kernel, by decide +kernel⟩
theorem cs_X5_goesOn_138 : cr_cs Y_X5_goesOn Y_X5_becomes 138 2 := ⟨cd_X5_becomes, cr_in (i := 735) (by decide +kernel) rfl, cr_in (i := 41) (by decide +kernel) rfl, by decide +kernel, by decide +kernel, by decide +kernel⟩
theorem cs_X5_goesOn_156 : cr_cs Y_X5_goesOn Y_X5_waitedOf 156 1 := ⟨cd_X5_waitedOf, cr_in (i := 787) (by decide +kernel) rfl, cr_in (i := 41) (by decide +kernel) rfl, by decide +kernel, by decide +kernel, by decide +kernel⟩
theorem cs_X5_goesOn_185 : cr_cs Y_X5_goesOn Y_X5_give 185 0 := ⟨cd_X5_give, cr_in (i := 791) (by decide +kernel) rfl, cr_in (i := 41) (by decide +kernel) rfl, by decide +kernel, by decide +kernel, by decide +kernel⟩
theorem cs_X5_ticks_120 : cr_cs Y_X5_ticks Y_X5_refuse 120 1 := ⟨cd_X5_refuse, cr_in (i := 716) (by decide +kernel) rfl, cr_in (i := 41) (by decide +kernel) rfl, by decide +kernel, by decide +kernel, by decide +kernel⟩
theorem cs_X5_ticks_188 : cr_cs Y_X5_ticks Y_X5_goesOn 188 0 := ⟨cd_X5_goesOn, cr_in (i := 783) (by decide +kernel) rfl, cr_in (i := 41) (by decide +kernel) rfl, by decide +kernel, by decide +kernel, by decide +kernel⟩
theorem cs_X5_wait_130 : cr_cs Y_X5_wait Y_X5_isIn 130 2 := ⟨cd_X5_isIn, cr_in (i := 724) (by decide +kernel) rfl, cr_in (i := 41) (by decide +kernel) rfl, by decide +kernel, by decide +kernel, by decide +kernel⟩
theorem cs_X5_wait_120 : cr_cs Y_X5_wait Y_X5_refuse 120 1 := ⟨cd_X5_refuse, cr_in (i := 716) (by decide +kernel) rfl, cr_in (i := 41) (by decide +kernel) rfl, by decide +kernel, by decide +kernel, by decide +kernel⟩
theorem cs_X5_wait_194 : cr_cs Y_X5_wait Y_X5_keep 194 0 := ⟨cd_X5_keep, cr_in (i := 835) (by decide +kernel) rfl, cr_in (i := 41) (by decide +kernel) rfl, by decide +kernel, by decide +kernel, by decide +kernel⟩
theorem cs_X5_wait_188 : cr_cs Y_X5_wait Y_X5_goesOn 188 0 := ⟨cd_X5_goesOn, cr_in (i := 783) (by decide +kernel) rfl, cr_in (i := 41) (by decide +kernel) rfl, by decide +kernel, by decide +kernel, by decide +kernel⟩
theorem cs_X5_wait_197 : cr_cs Y_X5_wait Y_X5_putBack 197 0 := ⟨cd_X5_putBack, cr_in (i := 839) (by decide +kernel) rfl, cr_in (i := 41) (by decide +kernel) rfl, by decide +kernel, by decide +kernel, by decide +kernel⟩
theorem cs_X5_whoOf_194 : cr_cs Y_X5_whoOf Y_X5_keep 194 0 := ⟨cd_X5_keep, cr_in (i := 835) (by decide +kernel) rfl, cr_in (i := 41) (by decide +kernel) rfl, by decide +kernel, by decide +kernel, by decide +kernel⟩
theorem cs_X5_whoOf_185 : cr_cs Y_X5_whoOf Y_X5_give 185 0 := ⟨cd_X5_give, cr_in (i := 791) (by decide +kernel) rfl, cr_in (i := 41) (by decide +kernel) rfl, by decide +kernel, by decide +kernel, by decide +kernel⟩
theorem cs_X5_whoOf_197 : cr_cs Y_X5_whoOf Y_X5_putBack 197 0 := ⟨cd_X5_putBack, cr_in (i := 839) (by decide +kernel) rfl, cr_in (i := 41) (by decide +kernel) rfl, by decide +kernel, by decide +kernel, by decide +kernel⟩
theorem cs_X5_who_130 : cr_cs Y_X5_who Y_X5_isIn 130 2 := ⟨cd_X5_isIn, cr_in (i := 724) (by decide +kernel) rfl, cr_in (i := 41) (by decide +kernel) rfl, by decide +kernel, by decide +kernel, by decide +kernel⟩
theorem cs_X5_who_120 : cr_cs Y_X5_who Y_X5_refuse 120 1 := ⟨cd_X5_refuse, cr_in (i := 716) (by decide +kernel) rfl, cr_in (i := 41) (by decide +kernel) rfl, by decide +kernel, by decide +kernel, by decide +kernel⟩
theorem cs_X5_who_200 : cr_cs Y_X5_who Y_X5_whoOf 200 1 := ⟨cd_X5_whoOf, cr_in (i := 847) (by decide +kernel) rfl, cr_in (i := 41) (by decide +kernel) rfl, by decide +kernel, by decide +kernel, by decide +kernel⟩
theorem cs_X5_why_130 : cr_cs Y_X5_why Y_X5_isIn 130 2 := ⟨cd_X5_isIn, cr_in (i := 724) (by decide +kernel) rfl, cr_in (i := 41) (by decide +kernel) rfl, by decide +kernel, by decide +kernel, by decide +kernel⟩
theorem cs_X5_why_120 : cr_cs Y_X5_why Y_X5_refuse 120 1 := ⟨cd_X5_refuse, cr_in (i := 716) (by decide +kernel) rfl, cr_in (i := 41) (by decide +kernel) rfl, by decide +kernel, by decide +kernel, by decide +kernel⟩
theorem cs_X5_why_200 : cr_cs Y_X5_why Y_X5_whoOf 200 1 := ⟨cd_X5_whoOf, cr_in (i := 847) (by decide +kernel) rfl, cr_in (i := 41) (by decide +kernel) rfl, by decide +kernel, by decide +kernel, by decide +kernel⟩
theorem cs_X5_why_134 : cr_cs Y_X5_why Y_X5_gradeOf 134 2 := ⟨cd_X5_gradeOf, cr_in (i := 727) (by decide +kernel) rfl, cr_in (i := 41) (by decide +kernel) rfl, by decide +kernel, by decide +kernel, by decide +kernel⟩
theorem cs_X5_why_152 : cr_cs Y_X5_why Y_X5_hasRoom 152 1 := ⟨cd_X5_hasRoom, cr_in (i := 807) (by decide +kernel) rfl, cr_in (i := 41) (by decide +kernel) rfl, by decide +kernel, by decide +kernel, by decide +kernel⟩
theorem cs_X5_why_156 : cr_cs Y_X5_why Y_X5_waitedOf 156 1 := ⟨cd_X5_waitedOf, cr_in (i := 787) (by decide +kernel) rfl, cr_in (i := 41) (by decide +kernel) rfl, by decide +kernel, by decide +kernel, by decide +kernel⟩
theorem cs_X5_why_159 : cr_cs Y_X5_why Y_X5_may 159 2 := ⟨cd_X5_may, cr_in (i := 803) (by decide +kernel) rfl, cr_in (i := 41) (by decide +kernel) rfl, by decide +kernel, by decide +kernel, by decide +kernel⟩
theorem cs_X5_within_120 : cr_cs Y_X5_within Y_X5_refuse 120 1 := ⟨cd_X5_refuse, cr_in (i := 716) (by decide +kernel) rfl, cr_in (i := 41) (by decide +kernel) rfl, by decide +kernel, by decide +kernel, by decide +kernel⟩
theorem cs_X5_loss_120 : cr_cs Y_X5_loss Y_X5_refuse 120 1 := ⟨cd_X5_refuse, cr_in (i := 716) (by decide +kernel) rfl, cr_in (i := 41) (by decide +kernel) rfl, by decide +kernel, by decide +kernel, by decide +kernel⟩
theorem cs_X5_loss_207 : cr_cs Y_X5_loss Y_X5_lossOf 207 2 := ⟨cd_X5_lossOf, cr_in (i := 863) (by decide +kernel) rfl, cr_in (i := 41) (by decide +kernel) rfl, by decide +kernel, by decide +kernel, by decide +kernel⟩
theorem cs_X5_wanted_120 : cr_cs Y_X5_wanted Y_X5_refuse 120 1 := ⟨cd_X5_refuse, cr_in (i := 716) (by decide +kernel) rfl, cr_in (i := 41) (by decide +kernel) rfl, by decide +kernel, by decide +kernel, by decide +kernel⟩
theorem cs_X5_wanted_207 : cr_cs Y_X5_wanted Y_X5_lossOf 207 2 := ⟨cd_X5_lossOf, cr_in (i := 863) (by decide +kernel) rfl, cr_in (i := 41) (by decide +kernel) rfl, by decide +kernel, by decide +kernel, by decide +kernel⟩
theorem cs_X5_want_130 : cr_cs Y_X5_want Y_X5_isIn 130 2 := ⟨cd_X5_isIn, cr_in (i := 724) (by decide +kernel) rfl, cr_in (i := 41) (by decide +kernel) rfl, by decide +kernel, by decide +kernel, by decide +kernel⟩
theorem cs_X5_want_120 : cr_cs Y_X5_want Y_X5_refuse 120 1 := ⟨cd_X5_refuse, cr_in (i := 716) (by decide +kernel) rfl, cr_in (i := 41) (by decide +kernel) rfl, by decide +kernel, by decide +kernel, by decide +kernel⟩
theorem cs_X5_cover_120 : cr_cs Y_X5_cover Y_X5_refuse 120 1 := ⟨cd_X5_refuse, cr_in (i := 716) (by decide +kernel) rfl, cr_in (i := 41) (by decide +kernel) rfl, by decide +kernel, by decide +kernel, by decide +kernel⟩
theorem cm_X5_cover_211 : Cond.methodLink (cr_nm Y_X5_cover).cls 211 Lib.Math.max.name ∈ cr_tb := cr_in (i := 881) (by decide +kernel) rfl
theorem cm_X5_cover_216 : Cond.methodLink (cr_nm Y_X5_cover).cls 216 Lib.Math.min.name ∈ cr_tb := cr_in (i := 882) (by decide +kernel) rfl
theorem cs_X5_begins_130 : cr_cs Y_X5_begins Y_X5_isIn 130 2 := ⟨cd_X5_isIn, cr_in (i := 724) (by decide +kernel) rfl, cr_in (i := 41) (by decide +kernel) rfl, by decide +kernel, by decide +kernel, by decide +kernel⟩
theorem cs_X5_begins_120 : cr_cs Y_X5_begins Y_X5_refuse 120 1 := ⟨cd_X5_refuse, cr_in (i := 716) (by decide +kernel) rfl, cr_in (i := 41) (by decide +kernel) rfl, by decide +kernel, by decide +kernel, by decide +kernel⟩
theorem cs_X5_helperOf_130 : cr_cs Y_X5_helperOf Y_X5_isIn 130 2 := ⟨cd_X5_isIn, cr_in (i := 724) (by decide +kernel) rfl, cr_in (i := 41) (by decide +kernel) rfl, by decide +kernel, by decide +kernel, by decide +kernel⟩
theorem cs_X5_helperOf_120 : cr_cs Y_X5_helperOf Y_X5_refuse 120 1 := ⟨cd_X5_refuse, cr_in (i := 716) (by decide +kernel) rfl, cr_in (i := 41) (by decide +kernel) rfl, by decide +kernel, by decide +kernel, by decide +kernel⟩
theorem cs_X5_helperOf_134 : cr_cs Y_X5_helperOf Y_X5_gradeOf 134 2 := ⟨cd_X5_gradeOf, cr_in (i := 727) (by decide +kernel) rfl, cr_in (i := 41) (by decide +kernel) rfl, by decide +kernel, by decide +kernel, by decide +kernel⟩
theorem cs_X5_callOf_130 : cr_cs Y_X5_callOf Y_X5_isIn 130 2 := ⟨cd_X5_isIn, cr_in (i := 724) (by decide +kernel) rfl, cr_in (i := 41) (by decide +kernel) rfl, by decide +kernel, by decide +kernel, by decide +kernel⟩
theorem cs_X5_callOf_120 : cr_cs Y_X5_callOf Y_X5_refuse 120 1 := ⟨cd_X5_refuse, cr_in (i := 716) (by decide +kernel) rfl, cr_in (i := 41) (by decide +kernel) rfl, by decide +kernel, by decide +kernel, by decide +kernel⟩
theorem cs_X5_callOf_156 : cr_cs Y_X5_callOf Y_X5_waitedOf 156 1 := ⟨cd_X5_waitedOf, cr_in (i := 787) (by decide +kernel) rfl, cr_in (i := 41) (by decide +kernel) rfl, by decide +kernel, by decide +kernel, by decide +kernel⟩
theorem cs_X5_count_219 : cr_cs Y_X5_count Y_X5_inState 219 1 := ⟨cd_X5_inState, cr_in (i := 899) (by decide +kernel) rfl, cr_in (i := 41) (by decide +kernel) rfl, by decide +kernel, by decide +kernel, by decide +kernel⟩
theorem ac_0_63 : Cond.methodLink RX0 63 arraycopyName ∈ cr_tb ∧ Cond.native arraycopyName ∈ cr_tb ∧ Cond.static arraycopyName ∈ cr_tb ∧ Cond.initialized "java/lang/System" ∈ cr_tb := ⟨cr_in (i := 483) (by decide +kernel) rfl, cr_in (i := 478) (by decide +kernel) rfl, cr_in (i := 477) (by decide +kernel) rfl, cr_in (i := 44) (by decide +kernel) rfl⟩
theorem ac_2_71 : Cond.methodLink RX2 71 arraycopyName ∈ cr_tb ∧ Cond.native arraycopyName ∈ cr_tb ∧ Cond.static arraycopyName ∈ cr_tb ∧ Cond.initialized "java/lang/System" ∈ cr_tb := ⟨cr_in (i := 476) (by decide +kernel) rfl, cr_in (i := 478) (by decide +kernel) rfl, cr_in (i := 477) (by decide +kernel) rfl, cr_in (i := 44) (by decide +kernel) rfl⟩
theorem fit_shF_shH_1 : cr_fit shF shH (fun j => 1 + j) := cr_fit_of (by decide +kernel) (fun i j _ _ h => by have h : 1 + i = 1 + j := h; omega)
theorem fit_shF_shC_10 : cr_fit shF shC (fun j => 10 + j) := cr_fit_of (by decide +kernel) (fun i j _ _ h => by have h : 10 + i = 10 + j := h; omega)
theorem fit_shR_shF_1 : cr_fit shR shF (fun j => 1 + j) := cr_fit_of (by decide +kernel) (fun i j _ _ h => by have h : 1 + i = 1 + j := h; omega)
theorem fit_shR_shF_26 : cr_fit shR shF (fun j => 26 + j) := cr_fit_of (by decide +kernel) (fun i j _ _ h => by have h : 26 + i = 26 + j := h; omega)
theorem fit_shR_shS_51 : cr_fit shR shS (fun j => 51 + j) := cr_fit_of (by decide +kernel) (fun i j _ _ h => by have h : 51 + i = 51 + j := h; omega)
theorem fit_shR_shH_2 : cr_fit shR shH (fun j => 2 + j) := cr_fit_of (by decide +kernel) (fun i j _ _ h => by have h : 2 + i = 2 + j := h; omega)
theorem fit_shR_shC_11 : cr_fit shR shC (fun j => 11 + j) := cr_fit_of (by decide +kernel) (fun i j _ _ h => by have h : 11 + i = 11 + j := h; omega)
