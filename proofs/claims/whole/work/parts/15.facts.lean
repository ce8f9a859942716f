def YX0_init : q_Y := (yX0_init, cX0_init, 1, none, { frames := 1, cells := 0, slots := 0, locals := 20 })
def YX0_begin : q_Y := (yX0_begin, cX0_begin, 3, none, { frames := 0, cells := 0, slots := 0, locals := 0 })
def YX0_copyFrom : q_Y := (yX0_copyFrom, cX0_copyFrom, 2, none, { frames := 0, cells := 0, slots := 0, locals := 0 })
def YX0_depth : q_Y := (yX0_depth, cX0_depth, 1, some .int, { frames := 1, cells := 0, slots := 0, locals := 21 })
def YX0_move : q_Y := (yX0_move, cX0_move, 4, none, { frames := 1, cells := 0, slots := 0, locals := 21 })
def YX0_stopAt : q_Y := (yX0_stopAt, cX0_stopAt, 2, none, { frames := 0, cells := 0, slots := 0, locals := 0 })
def YX1_init : q_Y := (yX1_init, cX1_init, 1, none, { frames := 2, cells := 2, slots := 59, locals := 40 })
def YX1_takeUp : q_Y := (yX1_takeUp, cX1_takeUp, 4, none, { frames := 1, cells := 0, slots := 0, locals := 21 })
def YX1_turnThumb : q_Y := (yX1_turnThumb, cX1_turnThumb, 5, none, { frames := 1, cells := 0, slots := 0, locals := 22 })
def YX1_mark : q_Y := (yX1_mark, cX1_mark, 3, none, { frames := 1, cells := 0, slots := 0, locals := 21 })
def YX2_init : q_Y := (yX2_init, cX2_init, 2, none, { frames := 2, cells := 12, slots := 414, locals := 41 })
def YX2_append : q_Y := (yX2_append, cX2_append, 4, some .boolean, { frames := 0, cells := 0, slots := 0, locals := 0 })
def YX2_takeText : q_Y := (yX2_takeText, cX2_takeText, 3, some .boolean, { frames := 8, cells := 0, slots := 0, locals := 174 })
def YX2_begin : q_Y := (yX2_begin, cX2_begin, 2, none, { frames := 1, cells := 0, slots := 0, locals := 21 })
def YX2_fail : q_Y := (yX2_fail, cX2_fail, 2, some .boolean, { frames := 0, cells := 0, slots := 0, locals := 0 })
def YX2_kindAt : q_Y := (yX2_kindAt, cX2_kindAt, 3, some .int, { frames := 0, cells := 0, slots := 0, locals := 0 })
def YX2_nextToken : q_Y := (yX2_nextToken, cX2_nextToken, 1, some .boolean, { frames := 1, cells := 0, slots := 0, locals := 22 })
def YX2_isName : q_Y := (yX2_isName, cX2_isName, 3, some .boolean, { frames := 5, cells := 0, slots := 0, locals := 106 })
def YX2_takeNumber : q_Y := (yX2_takeNumber, cX2_takeNumber, 4, some .boolean, { frames := 2, cells := 0, slots := 0, locals := 42 })
def YX2_takeStop : q_Y := (yX2_takeStop, cX2_takeStop, 1, some .boolean, { frames := 2, cells := 0, slots := 0, locals := 42 })
def YX2_takeRuleLine : q_Y := (yX2_takeRuleLine, cX2_takeRuleLine, 2, some .boolean, { frames := 7, cells := 0, slots := 0, locals := 148 })
def YX2_ruleNamed : q_Y := (yX2_ruleNamed, cX2_ruleNamed, 1, some .int, { frames := 6, cells := 0, slots := 0, locals := 128 })
def YX2_takeRule : q_Y := (yX2_takeRule, cX2_takeRule, 2, some .boolean, { frames := 3, cells := 0, slots := 0, locals := 65 })
def YX2_takeHour : q_Y := (yX2_takeHour, cX2_takeHour, 2, some .boolean, { frames := 3, cells := 0, slots := 0, locals := 65 })
def YX2_takeDiver : q_Y := (yX2_takeDiver, cX2_takeDiver, 3, some .boolean, { frames := 7, cells := 0, slots := 0, locals := 152 })
def YX2_takeWiths : q_Y := (yX2_takeWiths, cX2_takeWiths, 5, some .boolean, { frames := 6, cells := 0, slots := 0, locals := 128 })
def YX3_init : q_Y := (yX3_init, cX3_init, 2, none, { frames := 2, cells := 11, slots := 94, locals := 40 })
def YX3_begin : q_Y := (yX3_begin, cX3_begin, 4, none, { frames := 2, cells := 0, slots := 0, locals := 44 })
def YX3_copyFrom : q_Y := (yX3_copyFrom, cX3_copyFrom, 2, none, { frames := 2, cells := 0, slots := 0, locals := 45 })
def YX3_copyDivers : q_Y := (yX3_copyDivers, cX3_copyDivers, 4, none, { frames := 1, cells := 0, slots := 0, locals := 21 })
def YX4_init : q_Y := (yX4_init, cX4_init, 1, none, { frames := 1, cells := 3, slots := 36, locals := 20 })
def YX4_add : q_Y := (yX4_add, cX4_add, 4, some .boolean, { frames := 0, cells := 0, slots := 0, locals := 0 })
def YX4_copyFrom : q_Y := (yX4_copyFrom, cX4_copyFrom, 3, none, { frames := 1, cells := 0, slots := 0, locals := 23 })
def YX5_init : q_Y := (yX5_init, cX5_init, 1, none, { frames := 1, cells := 1, slots := 40, locals := 20 })
def YX5_renew : q_Y := (yX5_renew, cX5_renew, 4, none, { frames := 1, cells := 0, slots := 0, locals := 21 })
def YX5_faultAt : q_Y := (yX5_faultAt, cX5_faultAt, 2, some .int, { frames := 1, cells := 0, slots := 0, locals := 22 })
def YX5_faultOfThree : q_Y := (yX5_faultOfThree, cX5_faultOfThree, 4, some .int, { frames := 2, cells := 0, slots := 0, locals := 43 })
def YX5_put : q_Y := (yX5_put, cX5_put, 3, none, { frames := 2, cells := 0, slots := 0, locals := 43 })
def YX6_init : q_Y := (yX6_init, cX6_init, 1, none, { frames := 1, cells := 2, slots := 31, locals := 21 })
def YX6_begin : q_Y := (yX6_begin, cX6_begin, 2, none, { frames := 0, cells := 0, slots := 0, locals := 0 })
def YX6_fillWarmths : q_Y := (yX6_fillWarmths, cX6_fillWarmths, 2, none, { frames := 0, cells := 0, slots := 0, locals := 0 })
def YX6_copyFrom : q_Y := (yX6_copyFrom, cX6_copyFrom, 3, none, { frames := 0, cells := 0, slots := 0, locals := 0 })
def YX6_floor : q_Y := (yX6_floor, cX6_floor, 1, some .int, { frames := 0, cells := 0, slots := 0, locals := 0 })
def YX6_pressAt : q_Y := (yX6_pressAt, cX6_pressAt, 3, some .int, { frames := 0, cells := 0, slots := 0, locals := 0 })
def YX6_lighterAt : q_Y := (yX6_lighterAt, cX6_lighterAt, 2, some .int, { frames := 0, cells := 0, slots := 0, locals := 0 })
def YX6_weight : q_Y := (yX6_weight, cX6_weight, 7, some .int, { frames := 1, cells := 0, slots := 0, locals := 22 })
def YX6_leastBubble : q_Y := (yX6_leastBubble, cX6_leastBubble, 4, some .int, { frames := 1, cells := 0, slots := 0, locals := 21 })
def YX7_init : q_Y := (yX7_init, cX7_init, 2, none, { frames := 3, cells := 71, slots := 1552, locals := 62 })
def YX7_feed : q_Y := (yX7_feed, cX7_feed, 3, some .int, { frames := 1, cells := 0, slots := 0, locals := 23 })
def YX7_end : q_Y := (yX7_end, cX7_end, 3, some .int, { frames := 1, cells := 0, slots := 0, locals := 22 })
def YX7_text : q_Y := (yX7_text, cX7_text, 3, some .int, { frames := 9, cells := 0, slots := 0, locals := 196 })
def YX7_fault : q_Y := (yX7_fault, cX7_fault, 1, some .int, { frames := 0, cells := 0, slots := 0, locals := 0 })
def YX7_rule : q_Y := (yX7_rule, cX7_rule, 2, some .int, { frames := 1, cells := 0, slots := 0, locals := 22 })
def YX7_diver : q_Y := (yX7_diver, cX7_diver, 4, some .int, { frames := 3, cells := 0, slots := 0, locals := 71 })
def YX7_thumb : q_Y := (yX7_thumb, cX7_thumb, 3, some .int, { frames := 2, cells := 0, slots := 0, locals := 42 })
def YX7_warm : q_Y := (yX7_warm, cX7_warm, 3, some .int, { frames := 1, cells := 0, slots := 0, locals := 22 })
def YX7_go : q_Y := (yX7_go, cX7_go, 4, some .int, { frames := 4, cells := 0, slots := 0, locals := 93 })
def YX7_set : q_Y := (yX7_set, cX7_set, 5, some .int, { frames := 2, cells := 0, slots := 0, locals := 43 })
def YX7_now : q_Y := (yX7_now, cX7_now, 2, some .int, { frames := 1, cells := 0, slots := 0, locals := 23 })
def YX7_drop : q_Y := (yX7_drop, cX7_drop, 2, some .int, { frames := 0, cells := 0, slots := 0, locals := 0 })
def YX7_press : q_Y := (yX7_press, cX7_press, 2, some .int, { frames := 2, cells := 0, slots := 0, locals := 43 })
def YX7_weighs : q_Y := (yX7_weighs, cX7_weighs, 4, some .int, { frames := 3, cells := 0, slots := 0, locals := 71 })
def YX7_turning : q_Y := (yX7_turning, cX7_turning, 4, some .int, { frames := 3, cells := 0, slots := 0, locals := 71 })
def YX7_holding : q_Y := (yX7_holding, cX7_holding, 6, some .int, { frames := 3, cells := 0, slots := 0, locals := 71 })
def YX7_back : q_Y := (yX7_back, cX7_back, 4, some .int, { frames := 3, cells := 0, slots := 0, locals := 71 })
def YX7_goesAt : q_Y := (yX7_goesAt, cX7_goesAt, 2, some .int, { frames := 2, cells := 0, slots := 0, locals := 47 })
def YX7_order : q_Y := (yX7_order, cX7_order, 3, some .int, { frames := 4, cells := 0, slots := 0, locals := 94 })
def YX7_apart : q_Y := (yX7_apart, cX7_apart, 5, some .int, { frames := 2, cells := 0, slots := 0, locals := 47 })
def YX7_lifts : q_Y := (yX7_lifts, cX7_lifts, 6, some .int, { frames := 2, cells := 0, slots := 0, locals := 48 })
def YX7_bubbles : q_Y := (yX7_bubbles, cX7_bubbles, 4, some .int, { frames := 5, cells := 0, slots := 0, locals := 111 })
def YX7_atThumb : q_Y := (yX7_atThumb, cX7_atThumb, 4, some .int, { frames := 4, cells := 0, slots := 0, locals := 90 })
def YX7_spread : q_Y := (yX7_spread, cX7_spread, 4, some .int, { frames := 6, cells := 0, slots := 0, locals := 135 })
def YX7_hold : q_Y := (yX7_hold, cX7_hold, 8, some .int, { frames := 4, cells := 0, slots := 0, locals := 99 })
def YX7_late : q_Y := (yX7_late, cX7_late, 8, some .int, { frames := 4, cells := 0, slots := 0, locals := 99 })
def YX7_step : q_Y := (yX7_step, cX7_step, 10, some .int, { frames := 4, cells := 0, slots := 0, locals := 99 })
def YX7_hours : q_Y := (yX7_hours, cX7_hours, 8, some .int, { frames := 3, cells := 0, slots := 0, locals := 72 })
def YX7_trips : q_Y := (yX7_trips, cX7_trips, 6, some .int, { frames := 2, cells := 0, slots := 0, locals := 48 })
def YX7_bladder : q_Y := (yX7_bladder, cX7_bladder, 8, some .int, { frames := 3, cells := 0, slots := 0, locals := 68 })
def YX7_beats : q_Y := (yX7_beats, cX7_beats, 8, some .int, { frames := 4, cells := 0, slots := 0, locals := 90 })
def YX7_saw : q_Y := (yX7_saw, cX7_saw, 4, some .int, { frames := 2, cells := 0, slots := 0, locals := 43 })
def YX7_forget : q_Y := (yX7_forget, cX7_forget, 2, some .int, { frames := 0, cells := 0, slots := 0, locals := 0 })
def YX7_fits : q_Y := (yX7_fits, cX7_fits, 8, some .int, { frames := 3, cells := 0, slots := 0, locals := 68 })
def YX7_who : q_Y := (yX7_who, cX7_who, 3, some .int, { frames := 4, cells := 0, slots := 0, locals := 95 })
def YX7_keep : q_Y := (yX7_keep, cX7_keep, 3, some .int, { frames := 3, cells := 0, slots := 0, locals := 66 })
def YX7_restore : q_Y := (yX7_restore, cX7_restore, 2, some .int, { frames := 3, cells := 0, slots := 0, locals := 66 })
def YX7_sheet : q_Y := (yX7_sheet, cX7_sheet, 4, some .int, { frames := 2, cells := 0, slots := 0, locals := 44 })
def YX7_lay : q_Y := (yX7_lay, cX7_lay, 5, some .int, { frames := 3, cells := 0, slots := 0, locals := 65 })
def YX7_read : q_Y := (yX7_read, cX7_read, 12, some .int, { frames := 3, cells := 0, slots := 0, locals := 66 })
def YX7_torn : q_Y := (yX7_torn, cX7_torn, 1, some .int, { frames := 0, cells := 0, slots := 0, locals := 0 })
def YX7_count : q_Y := (yX7_count, cX7_count, 2, some .int, { frames := 2, cells := 0, slots := 0, locals := 42 })
def YX7_within : q_Y := (yX7_within, cX7_within, 3, some .boolean, { frames := 0, cells := 0, slots := 0, locals := 0 })
def YX7_isThumb : q_Y := (yX7_isThumb, cX7_isThumb, 1, some .boolean, { frames := 1, cells := 0, slots := 0, locals := 22 })
def YX7_isHeavy : q_Y := (yX7_isHeavy, cX7_isHeavy, 1, some .boolean, { frames := 1, cells := 0, slots := 0, locals := 22 })
def YX7_isLate : q_Y := (yX7_isLate, cX7_isLate, 1, some .boolean, { frames := 1, cells := 0, slots := 0, locals := 22 })
def YX7_isStep : q_Y := (yX7_isStep, cX7_isStep, 1, some .boolean, { frames := 1, cells := 0, slots := 0, locals := 22 })
def YX7_isSheet : q_Y := (yX7_isSheet, cX7_isSheet, 1, some .boolean, { frames := 1, cells := 0, slots := 0, locals := 22 })
def YX7_isLane : q_Y := (yX7_isLane, cX7_isLane, 1, some .boolean, { frames := 1, cells := 0, slots := 0, locals := 22 })
def YX7_isDiver : q_Y := (yX7_isDiver, cX7_isDiver, 2, some .boolean, { frames := 1, cells := 0, slots := 0, locals := 22 })
def YX7_isDepth : q_Y := (yX7_isDepth, cX7_isDepth, 2, some .boolean, { frames := 1, cells := 0, slots := 0, locals := 22 })
def YX7_canHold : q_Y := (yX7_canHold, cX7_canHold, 5, some .boolean, { frames := 2, cells := 0, slots := 0, locals := 43 })
def YX7_divideUp : q_Y := (yX7_divideUp, cX7_divideUp, 2, some .int, { frames := 0, cells := 0, slots := 0, locals := 0 })
def YX7_divideCut : q_Y := (yX7_divideCut, cX7_divideCut, 2, some .int, { frames := 0, cells := 0, slots := 0, locals := 0 })
def YX7_bit : q_Y := (yX7_bit, cX7_bit, 1, some .int, { frames := 0, cells := 0, slots := 0, locals := 0 })
def YX7_weightOf : q_Y := (yX7_weightOf, cX7_weightOf, 4, some .int, { frames := 2, cells := 0, slots := 0, locals := 48 })
def YX7_diversAt : q_Y := (yX7_diversAt, cX7_diversAt, 4, some .int, { frames := 0, cells := 0, slots := 0, locals := 0 })
def YX7_hooks : q_Y := (yX7_hooks, cX7_hooks, 3, some .int, { frames := 1, cells := 0, slots := 0, locals := 20 })
def YX7_moveDiver : q_Y := (yX7_moveDiver, cX7_moveDiver, 3, none, { frames := 3, cells := 0, slots := 0, locals := 71 })
def YX7_comeToFloor : q_Y := (yX7_comeToFloor, cX7_comeToFloor, 2, none, { frames := 1, cells := 0, slots := 0, locals := 21 })
def YX7_comeToTop : q_Y := (yX7_comeToTop, cX7_comeToTop, 2, none, { frames := 0, cells := 0, slots := 0, locals := 0 })
def YX7_thumbOf : q_Y := (yX7_thumbOf, cX7_thumbOf, 6, some .int, { frames := 1, cells := 0, slots := 0, locals := 22 })
def YX7_diversAhead : q_Y := (yX7_diversAhead, cX7_diversAhead, 4, some .int, { frames := 3, cells := 0, slots := 0, locals := 71 })
def YX7_isAhead : q_Y := (yX7_isAhead, cX7_isAhead, 5, some .boolean, { frames := 2, cells := 0, slots := 0, locals := 47 })
def YX7_leavesAt : q_Y := (yX7_leavesAt, cX7_leavesAt, 5, some .boolean, { frames := 2, cells := 0, slots := 0, locals := 48 })
def YX7_canBe : q_Y := (yX7_canBe, cX7_canBe, 5, some .boolean, { frames := 3, cells := 0, slots := 0, locals := 71 })
def YX7_floatsFrom : q_Y := (yX7_floatsFrom, cX7_floatsFrom, 5, some .int, { frames := 2, cells := 0, slots := 0, locals := 44 })
def YX7_risesFrom : q_Y := (yX7_risesFrom, cX7_risesFrom, 3, some .int, { frames := 3, cells := 0, slots := 0, locals := 68 })
def YX7_comesBackFrom : q_Y := (yX7_comesBackFrom, cX7_comesBackFrom, 2, some .int, { frames := 4, cells := 0, slots := 0, locals := 90 })
def YX7_leastAtThumb : q_Y := (yX7_leastAtThumb, cX7_leastAtThumb, 3, some .int, { frames := 3, cells := 0, slots := 0, locals := 68 })
def YX7_greatestAtThumb : q_Y := (yX7_greatestAtThumb, cX7_greatestAtThumb, 3, some .int, { frames := 3, cells := 0, slots := 0, locals := 68 })
def YX7_tellRange : q_Y := (yX7_tellRange, cX7_tellRange, 4, some .int, { frames := 1, cells := 0, slots := 0, locals := 21 })
def YX7_findGoers : q_Y := (yX7_findGoers, cX7_findGoers, 5, none, { frames := 5, cells := 0, slots := 0, locals := 111 })
def YX7_firstGoer : q_Y := (yX7_firstGoer, cX7_firstGoer, 2, some .int, { frames := 0, cells := 0, slots := 0, locals := 0 })
def YX7_goersApart : q_Y := (yX7_goersApart, cX7_goersApart, 5, some .int, { frames := 0, cells := 0, slots := 0, locals := 0 })
def YX7_greatestGap : q_Y := (yX7_greatestGap, cX7_greatestGap, 6, some .int, { frames := 1, cells := 0, slots := 0, locals := 24 })
def YX7_tryHold : q_Y := (yX7_tryHold, cX7_tryHold, 9, none, { frames := 3, cells := 0, slots := 0, locals := 71 })
def YX8_init : q_Y := (yX8_init, cX8_init, 2, none, { frames := 2, cells := 13, slots := 2401, locals := 41 })
def YX8_in : q_Y := (yX8_in, cX8_in, 6, some .boolean, { frames := 0, cells := 0, slots := 0, locals := 0 })
def YX8_flag : q_Y := (yX8_flag, cX8_flag, 1, some .int, { frames := 0, cells := 0, slots := 0, locals := 0 })
def YX8_size : q_Y := (yX8_size, cX8_size, 1, some .int, { frames := 0, cells := 0, slots := 0, locals := 0 })
def YX8_firstDraft : q_Y := (yX8_firstDraft, cX8_firstDraft, 2, none, { frames := 0, cells := 0, slots := 0, locals := 0 })
def YX8_keepDraft : q_Y := (yX8_keepDraft, cX8_keepDraft, 2, none, { frames := 1, cells := 0, slots := 0, locals := 20 })
def YX8_feed : q_Y := (yX8_feed, cX8_feed, 4, some .int, { frames := 0, cells := 0, slots := 0, locals := 0 })
def YX8_end : q_Y := (yX8_end, cX8_end, 3, some .int, { frames := 1, cells := 0, slots := 0, locals := 25 })
def YX8_needs : q_Y := (yX8_needs, cX8_needs, 3, none, { frames := 0, cells := 0, slots := 0, locals := 0 })
def YX8_look : q_Y := (yX8_look, cX8_look, 2, some .int, { frames := 0, cells := 0, slots := 0, locals := 0 })
def YX8_is : q_Y := (yX8_is, cX8_is, 6, some .boolean, { frames := 1, cells := 0, slots := 0, locals := 21 })
def YX8_withNow : q_Y := (yX8_withNow, cX8_withNow, 1, some .int, { frames := 2, cells := 0, slots := 0, locals := 46 })
def YX8_nameNow : q_Y := (yX8_nameNow, cX8_nameNow, 1, some .int, { frames := 2, cells := 0, slots := 0, locals := 46 })
def YX8_next : q_Y := (yX8_next, cX8_next, 2, none, { frames := 1, cells := 0, slots := 0, locals := 25 })
def YX8_isNumber : q_Y := (yX8_isNumber, cX8_isNumber, 3, none, { frames := 1, cells := 0, slots := 0, locals := 25 })
def YX8_readNumber : q_Y := (yX8_readNumber, cX8_readNumber, 4, some .int, { frames := 2, cells := 0, slots := 0, locals := 47 })
def YX8_readHour : q_Y := (yX8_readHour, cX8_readHour, 3, none, { frames := 3, cells := 0, slots := 0, locals := 70 })
def YX8_readDiver : q_Y := (yX8_readDiver, cX8_readDiver, 4, none, { frames := 3, cells := 0, slots := 0, locals := 70 })
def YX8_readRule : q_Y := (yX8_readRule, cX8_readRule, 2, none, { frames := 3, cells := 0, slots := 0, locals := 70 })
def YX8_readLine : q_Y := (yX8_readLine, cX8_readLine, 2, none, { frames := 4, cells := 0, slots := 0, locals := 93 })
def YX8_text : q_Y := (yX8_text, cX8_text, 2, some .int, { frames := 5, cells := 0, slots := 0, locals := 114 })
def YX8_fault : q_Y := (yX8_fault, cX8_fault, 1, some .int, { frames := 0, cells := 0, slots := 0, locals := 0 })
def YX8_rule : q_Y := (yX8_rule, cX8_rule, 2, some .int, { frames := 1, cells := 0, slots := 0, locals := 25 })
def YX8_isDiver : q_Y := (yX8_isDiver, cX8_isDiver, 2, some .boolean, { frames := 1, cells := 0, slots := 0, locals := 25 })
def YX8_isDepth : q_Y := (yX8_isDepth, cX8_isDepth, 2, some .boolean, { frames := 1, cells := 0, slots := 0, locals := 25 })
def YX8_isThumb : q_Y := (yX8_isThumb, cX8_isThumb, 1, some .boolean, { frames := 1, cells := 0, slots := 0, locals := 25 })
def YX8_of : q_Y := (yX8_of, cX8_of, 3, some .int, { frames := 0, cells := 0, slots := 0, locals := 0 })
def YX8_weight : q_Y := (yX8_weight, cX8_weight, 7, some .int, { frames := 0, cells := 0, slots := 0, locals := 0 })
def YX8_heavy : q_Y := (yX8_heavy, cX8_heavy, 2, some .int, { frames := 1, cells := 0, slots := 0, locals := 22 })
def YX8_weighsAt : q_Y := (yX8_weighsAt, cX8_weighsAt, 4, some .int, { frames := 2, cells := 0, slots := 0, locals := 43 })
def YX8_diver : q_Y := (yX8_diver, cX8_diver, 4, some .int, { frames := 3, cells := 0, slots := 0, locals := 66 })
def YX8_thumb : q_Y := (yX8_thumb, cX8_thumb, 3, some .int, { frames := 2, cells := 0, slots := 0, locals := 45 })
def YX8_warm : q_Y := (yX8_warm, cX8_warm, 3, some .int, { frames := 1, cells := 0, slots := 0, locals := 25 })
def YX8_floor : q_Y := (yX8_floor, cX8_floor, 1, some .int, { frames := 0, cells := 0, slots := 0, locals := 0 })
def YX8_moves : q_Y := (yX8_moves, cX8_moves, 4, none, { frames := 1, cells := 0, slots := 0, locals := 26 })
def YX8_tickOf : q_Y := (yX8_tickOf, cX8_tickOf, 5, none, { frames := 2, cells := 0, slots := 0, locals := 49 })
def YX8_those : q_Y := (yX8_those, cX8_those, 4, some .int, { frames := 1, cells := 0, slots := 0, locals := 22 })
def YX8_go : q_Y := (yX8_go, cX8_go, 4, some .int, { frames := 3, cells := 0, slots := 0, locals := 73 })
def YX8_set : q_Y := (yX8_set, cX8_set, 4, some .int, { frames := 2, cells := 0, slots := 0, locals := 46 })
def YX8_now : q_Y := (yX8_now, cX8_now, 2, some .int, { frames := 2, cells := 0, slots := 0, locals := 45 })
def YX8_drop : q_Y := (yX8_drop, cX8_drop, 2, some .int, { frames := 0, cells := 0, slots := 0, locals := 0 })
def YX8_press : q_Y := (yX8_press, cX8_press, 2, some .int, { frames := 2, cells := 0, slots := 0, locals := 46 })
def YX8_weighs : q_Y := (yX8_weighs, cX8_weighs, 4, some .int, { frames := 3, cells := 0, slots := 0, locals := 66 })
def YX8_turning : q_Y := (yX8_turning, cX8_turning, 5, some .int, { frames := 3, cells := 0, slots := 0, locals := 66 })
def YX8_holding : q_Y := (yX8_holding, cX8_holding, 5, some .int, { frames := 3, cells := 0, slots := 0, locals := 66 })
def YX8_back : q_Y := (yX8_back, cX8_back, 3, some .int, { frames := 3, cells := 0, slots := 0, locals := 66 })
def YX8_goesWith : q_Y := (yX8_goesWith, cX8_goesWith, 4, some .int, { frames := 1, cells := 0, slots := 0, locals := 26 })
def YX8_goesOf : q_Y := (yX8_goesOf, cX8_goesOf, 2, some .int, { frames := 2, cells := 0, slots := 0, locals := 49 })
def YX8_goesAt : q_Y := (yX8_goesAt, cX8_goesAt, 2, some .int, { frames := 3, cells := 0, slots := 0, locals := 70 })
def YX8_rankOf : q_Y := (yX8_rankOf, cX8_rankOf, 3, some .int, { frames := 3, cells := 0, slots := 0, locals := 70 })
def YX8_order : q_Y := (yX8_order, cX8_order, 6, some .int, { frames := 4, cells := 0, slots := 0, locals := 92 })
def YX8_apart : q_Y := (yX8_apart, cX8_apart, 7, some .int, { frames := 3, cells := 0, slots := 0, locals := 70 })
def YX8_lifts : q_Y := (yX8_lifts, cX8_lifts, 5, some .int, { frames := 2, cells := 0, slots := 0, locals := 46 })
def YX8_noBubbles : q_Y := (yX8_noBubbles, cX8_noBubbles, 1, none, { frames := 0, cells := 0, slots := 0, locals := 0 })
def YX8_aBubble : q_Y := (yX8_aBubble, cX8_aBubble, 2, none, { frames := 0, cells := 0, slots := 0, locals := 0 })
def YX8_told : q_Y := (yX8_told, cX8_told, 2, some .int, { frames := 0, cells := 0, slots := 0, locals := 0 })
def YX8_comesBack : q_Y := (yX8_comesBack, cX8_comesBack, 3, some .boolean, { frames := 1, cells := 0, slots := 0, locals := 26 })
def YX8_goesBy : q_Y := (yX8_goesBy, cX8_goesBy, 4, some .boolean, { frames := 1, cells := 0, slots := 0, locals := 26 })
def YX8_isHeavy : q_Y := (yX8_isHeavy, cX8_isHeavy, 1, some .boolean, { frames := 1, cells := 0, slots := 0, locals := 25 })
def YX8_bubbles : q_Y := (yX8_bubbles, cX8_bubbles, 5, some .int, { frames := 2, cells := 0, slots := 0, locals := 49 })
def YX8_atThumb : q_Y := (yX8_atThumb, cX8_atThumb, 5, some .int, { frames := 2, cells := 0, slots := 0, locals := 49 })
def YX8_layThumbs : q_Y := (yX8_layThumbs, cX8_layThumbs, 4, none, { frames := 2, cells := 0, slots := 0, locals := 49 })
def YX8_takenBy : q_Y := (yX8_takenBy, cX8_takenBy, 5, some .int, { frames := 0, cells := 0, slots := 0, locals := 0 })
def YX8_spread : q_Y := (yX8_spread, cX8_spread, 6, some .int, { frames := 3, cells := 0, slots := 0, locals := 72 })
def YX8_holds : q_Y := (yX8_holds, cX8_holds, 10, none, { frames := 2, cells := 0, slots := 0, locals := 49 })
def YX8_isHold : q_Y := (yX8_isHold, cX8_isHold, 5, some .boolean, { frames := 2, cells := 0, slots := 0, locals := 46 })
def YX8_isStep : q_Y := (yX8_isStep, cX8_isStep, 1, some .boolean, { frames := 1, cells := 0, slots := 0, locals := 25 })
def YX8_isLate : q_Y := (yX8_isLate, cX8_isLate, 1, some .boolean, { frames := 1, cells := 0, slots := 0, locals := 25 })
def YX8_hold : q_Y := (yX8_hold, cX8_hold, 8, some .int, { frames := 3, cells := 0, slots := 0, locals := 78 })
def YX8_late : q_Y := (yX8_late, cX8_late, 8, some .int, { frames := 3, cells := 0, slots := 0, locals := 78 })
def YX8_step : q_Y := (yX8_step, cX8_step, 11, some .int, { frames := 3, cells := 0, slots := 0, locals := 78 })
def YX8_hours : q_Y := (yX8_hours, cX8_hours, 8, some .int, { frames := 2, cells := 0, slots := 0, locals := 46 })
def YX8_trips : q_Y := (yX8_trips, cX8_trips, 5, some .int, { frames := 2, cells := 0, slots := 0, locals := 46 })
def YX8_bladderAt : q_Y := (yX8_bladderAt, cX8_bladderAt, 4, some .int, { frames := 2, cells := 0, slots := 0, locals := 43 })
def YX8_bladder : q_Y := (yX8_bladder, cX8_bladder, 8, some .int, { frames := 3, cells := 0, slots := 0, locals := 66 })
def YX8_beats : q_Y := (yX8_beats, cX8_beats, 8, some .int, { frames := 2, cells := 0, slots := 0, locals := 46 })
def YX8_saw : q_Y := (yX8_saw, cX8_saw, 5, some .int, { frames := 2, cells := 0, slots := 0, locals := 46 })
def YX8_forget : q_Y := (yX8_forget, cX8_forget, 2, some .int, { frames := 0, cells := 0, slots := 0, locals := 0 })
def YX8_canBe : q_Y := (yX8_canBe, cX8_canBe, 4, some .boolean, { frames := 1, cells := 0, slots := 0, locals := 26 })
def YX8_fits : q_Y := (yX8_fits, cX8_fits, 4, some .int, { frames := 2, cells := 0, slots := 0, locals := 49 })
def YX8_who : q_Y := (yX8_who, cX8_who, 3, some .int, { frames := 2, cells := 0, slots := 0, locals := 49 })
def YX8_copies : q_Y := (yX8_copies, cX8_copies, 4, none, { frames := 0, cells := 0, slots := 0, locals := 0 })
def YX8_keep : q_Y := (yX8_keep, cX8_keep, 3, some .int, { frames := 1, cells := 0, slots := 0, locals := 25 })
def YX8_restore : q_Y := (yX8_restore, cX8_restore, 2, some .int, { frames := 1, cells := 0, slots := 0, locals := 25 })
def YX8_isSheet : q_Y := (yX8_isSheet, cX8_isSheet, 2, some .boolean, { frames := 1, cells := 0, slots := 0, locals := 25 })
def YX8_sheet : q_Y := (yX8_sheet, cX8_sheet, 5, some .int, { frames := 2, cells := 0, slots := 0, locals := 46 })
def YX8_lay : q_Y := (yX8_lay, cX8_lay, 4, some .int, { frames := 2, cells := 0, slots := 0, locals := 46 })
def YX8_read : q_Y := (yX8_read, cX8_read, 11, some .int, { frames := 3, cells := 0, slots := 0, locals := 70 })
def YX8_torn : q_Y := (yX8_torn, cX8_torn, 1, some .int, { frames := 0, cells := 0, slots := 0, locals := 0 })
def YX8_count : q_Y := (yX8_count, cX8_count, 4, some .int, { frames := 1, cells := 0, slots := 0, locals := 22 })
def YJ9_floorMod_7cf53 : q_Y := (yJ9_floorMod_7cf53, cJ9_floorMod_7cf53, 3, some .int, { frames := 0, cells := 0, slots := 0, locals := 0 })
def YJ9_abs_0f7a4 : q_Y := (yJ9_abs_0f7a4, cJ9_abs_0f7a4, 1, some .int, { frames := 0, cells := 0, slots := 0, locals := 0 })
def YJ9_max_7cf53 : q_Y := (yJ9_max_7cf53, cJ9_max_7cf53, 2, some .int, { frames := 0, cells := 0, slots := 0, locals := 0 })
def YJ9_min_7cf53 : q_Y := (yJ9_min_7cf53, cJ9_min_7cf53, 2, some .int, { frames := 0, cells := 0, slots := 0, locals := 0 })
def YJ0_length_8abf5 : q_Y := (yJ0_length_8abf5, cJ0_length_8abf5, 1, some .int, { frames := 1, cells := 0, slots := 0, locals := 20 })
def YJ0_charAt_5068e : q_Y := (yJ0_charAt_5068e, cJ0_charAt_5068e, 2, some .char, { frames := 4, cells := 0, slots := 0, locals := 85 })
def YJ0_coder_7d493 : q_Y := (yJ0_coder_7d493, cJ0_coder_7d493, 1, some .byte, { frames := 0, cells := 0, slots := 0, locals := 0 })
def YJ0_isLatin1_aae02 : q_Y := (yJ0_isLatin1_aae02, cJ0_isLatin1_aae02, 1, some .boolean, { frames := 0, cells := 0, slots := 0, locals := 0 })
def YJ0_checkIndex_df160 : q_Y := (yJ0_checkIndex_df160, cJ0_checkIndex_df160, 2, none, { frames := 1, cells := 0, slots := 0, locals := 22 })
def YJ1_charAt_3b067 : q_Y := (yJ1_charAt_3b067, cJ1_charAt_3b067, 2, some .char, { frames := 2, cells := 0, slots := 0, locals := 43 })
def YJ2_getChar_3b067 : q_Y := (yJ2_getChar_3b067, cJ2_getChar_3b067, 2, some .char, { frames := 1, cells := 0, slots := 0, locals := 20 })
def YJ2_length_9d52b : q_Y := (yJ2_length_9d52b, cJ2_length_9d52b, 1, some .int, { frames := 0, cells := 0, slots := 0, locals := 0 })
def YJ2_charAt_3b067 : q_Y := (yJ2_charAt_3b067, cJ2_charAt_3b067, 2, some .char, { frames := 3, cells := 0, slots := 0, locals := 64 })
def YJ2_checkIndex_2214a : q_Y := (yJ2_checkIndex_2214a, cJ2_checkIndex_2214a, 2, none, { frames := 2, cells := 0, slots := 0, locals := 43 })
def YJ3_checkIndex_8e157 : q_Y := (yJ3_checkIndex_8e157, cJ3_checkIndex_8e157, 3, some .int, { frames := 0, cells := 0, slots := 0, locals := 0 })
theorem wX0 : ∀ w ∈ u_ws RX0 TX0 8, w ∈ q_T := by decide +kernel
theorem wX1 : ∀ w ∈ u_ws RX1 TX1 6, w ∈ q_T := by decide +kernel
theorem wX2 : ∀ w ∈ u_ws RX2 TX2 13, w ∈ q_T := by decide +kernel
theorem wX3 : ∀ w ∈ u_ws RX3 TX3 8, w ∈ q_T := by decide +kernel
theorem wX4 : ∀ w ∈ u_ws RX4 TX4 4, w ∈ q_T := by decide +kernel
theorem wX5 : ∀ w ∈ u_ws RX5 TX5 3, w ∈ q_T := by decide +kernel
theorem wX6 : ∀ w ∈ u_ws RX6 TX6 2, w ∈ q_T := by decide +kernel
theorem wX7 : ∀ w ∈ u_ws RX7 TX7 11, w ∈ q_T := by decide +kernel
theorem wX8 : ∀ w ∈ u_ws RX8 TX8 31, w ∈ q_T := by decide +kernel
theorem oX7_1 : Cond.methodLink RX7 1 Lib.objectInit ∈ q_T := q_in 98 (by decide +kernel) rfl
theorem nX7_7 : q_nf RX7 7 2 13 [some none, some none, some none, some none, none, none, none, none, none, none, none, none, none] := ⟨RX2, TX2, tyX2, rfl, wX2, tyX2_ok, q_in 101 (by decide +kernel) rfl, q_in 102 (by decide +kernel) rfl, q_in 80 (by decide +kernel) rfl, fun E j hj => by rcases (show j = 0 ∨ j = 1 ∨ j = 2 ∨ j = 3 ∨ j = 4 ∨ j = 5 ∨ j = 6 ∨ j = 7 ∨ j = 8 ∨ j = 9 ∨ j = 10 ∨ j = 11 ∨ j = 12 by omega) with rfl | rfl | rfl | rfl | rfl | rfl | rfl | rfl | rfl | rfl | rfl | rfl | rfl <;> rfl⟩
theorem lX7_9 : q_lk RX7 YX2_init 9 0 false := ⟨q_in 105 (by decide +kernel) rfl, q_in 80 (by decide +kernel) rfl, by decide +kernel, fun _ => q_in 103 (by decide +kernel) rfl, fun h => absurd h (by decide)⟩
theorem fX7_10 : q_fg RX7 10 7 0 := ⟨RX7, TX7, 11, rfl, wX7, by decide, q_in 351 (by decide +kernel) rfl⟩
theorem pX7_10 : q_fd RX7 10 7 0 (.object "DiverBottle$Reader") true := ⟨RX7, TX7, 11, tyX7, rfl, wX7, tyX7_ok, nmX7, by decide, by decide +kernel, rfl, fun _ => rfl, q_in 351 (by decide +kernel) rfl⟩
theorem nX7_16 : q_nf RX7 16 6 2 [some none, some none] := ⟨RX6, TX6, tyX6, rfl, wX6, tyX6_ok, q_in 230 (by decide +kernel) rfl, q_in 108 (by decide +kernel) rfl, q_in 81 (by decide +kernel) rfl, fun E j hj => by rcases (show j = 0 ∨ j = 1 by omega) with rfl | rfl <;> rfl⟩
theorem lX7_18 : q_lk RX7 YX6_init 18 0 false := ⟨q_in 111 (by decide +kernel) rfl, q_in 81 (by decide +kernel) rfl, by decide +kernel, fun _ => q_in 231 (by decide +kernel) rfl, fun h => absurd h (by decide)⟩
theorem fX7_19 : q_fg RX7 19 7 1 := ⟨RX7, TX7, 11, rfl, wX7, by decide, q_in 352 (by decide +kernel) rfl⟩
theorem pX7_19 : q_fd RX7 19 7 1 (.object "DiverBottle$Water") true := ⟨RX7, TX7, 11, tyX7, rfl, wX7, tyX7_ok, nmX7, by decide, by decide +kernel, rfl, fun _ => rfl, q_in 352 (by decide +kernel) rfl⟩
theorem qX7_23 : Cond.classLink RX7 23 (q_oc 4) ∈ q_T := q_in 232 (by decide +kernel) rfl
theorem nX7_23 : q_nf RX7 23 3 8 [some none, some none, none, none, none, none, none, none] := ⟨RX3, TX3, tyX3, rfl, wX3, tyX3_ok, q_in 232 (by decide +kernel) rfl, q_in 233 (by decide +kernel) rfl, q_in 83 (by decide +kernel) rfl, fun E j hj => by rcases (show j = 0 ∨ j = 1 ∨ j = 2 ∨ j = 3 ∨ j = 4 ∨ j = 5 ∨ j = 6 ∨ j = 7 by omega) with rfl | rfl | rfl | rfl | rfl | rfl | rfl | rfl <;> rfl⟩
theorem lX7_25 : q_lk RX7 YX3_init 25 0 false := ⟨q_in 236 (by decide +kernel) rfl, q_in 83 (by decide +kernel) rfl, by decide +kernel, fun _ => q_in 234 (by decide +kernel) rfl, fun h => absurd h (by decide)⟩
theorem fX7_26 : q_fg RX7 26 7 2 := ⟨RX7, TX7, 11, rfl, wX7, by decide, q_in 353 (by decide +kernel) rfl⟩
theorem pX7_26 : q_fd RX7 26 7 2 (.object "DiverBottle$Scene") true := ⟨RX7, TX7, 11, tyX7, rfl, wX7, tyX7_ok, nmX7, by decide, by decide +kernel, rfl, fun _ => rfl, q_in 353 (by decide +kernel) rfl⟩
theorem fX7_30 : q_fg RX7 30 7 3 := ⟨RX7, TX7, 11, rfl, wX7, by decide, q_in 354 (by decide +kernel) rfl⟩
theorem pX7_30 : q_fd RX7 30 7 3 (.array (.object "DiverBottle$Scene")) true := ⟨RX7, TX7, 11, tyX7, rfl, wX7, tyX7_ok, nmX7, by decide, by decide +kernel, rfl, fun _ => rfl, q_in 354 (by decide +kernel) rfl⟩
theorem fX7_34 : q_fg RX7 34 7 4 := ⟨RX7, TX7, 11, rfl, wX7, by decide, q_in 355 (by decide +kernel) rfl⟩
theorem pX7_34 : q_fd RX7 34 7 4 (.array .boolean) true := ⟨RX7, TX7, 11, tyX7, rfl, wX7, tyX7_ok, nmX7, by decide, by decide +kernel, rfl, fun _ => rfl, q_in 355 (by decide +kernel) rfl⟩
theorem qX7_38 : Cond.classLink RX7 38 (q_oc 5) ∈ q_T := q_in 298 (by decide +kernel) rfl
theorem nX7_38 : q_nf RX7 38 5 3 [some none, none, none] := ⟨RX5, TX5, tyX5, rfl, wX5, tyX5_ok, q_in 298 (by decide +kernel) rfl, q_in 300 (by decide +kernel) rfl, q_in 85 (by decide +kernel) rfl, fun E j hj => by rcases (show j = 0 ∨ j = 1 ∨ j = 2 by omega) with rfl | rfl | rfl <;> rfl⟩
theorem fX7_40 : q_fg RX7 40 7 5 := ⟨RX7, TX7, 11, rfl, wX7, by decide, q_in 356 (by decide +kernel) rfl⟩
theorem pX7_40 : q_fd RX7 40 7 5 (.array (.object "DiverBottle$Sheet")) true := ⟨RX7, TX7, 11, tyX7, rfl, wX7, tyX7_ok, nmX7, by decide, by decide +kernel, rfl, fun _ => rfl, q_in 356 (by decide +kernel) rfl⟩
theorem lX7_44 : q_lk RX7 YX5_init 44 0 true := ⟨q_in 303 (by decide +kernel) rfl, q_in 85 (by decide +kernel) rfl, by decide +kernel, fun h => absurd h (by decide), fun _ => q_inN 301 (by decide +kernel) rfl⟩
theorem nX7_45 : q_nf RX7 45 4 4 [some none, some none, some none, none] := ⟨RX4, TX4, tyX4, rfl, wX4, tyX4_ok, q_in 318 (by decide +kernel) rfl, q_in 240 (by decide +kernel) rfl, q_in 84 (by decide +kernel) rfl, fun E j hj => by rcases (show j = 0 ∨ j = 1 ∨ j = 2 ∨ j = 3 by omega) with rfl | rfl | rfl | rfl <;> rfl⟩
theorem lX7_47 : q_lk RX7 YX4_init 47 0 true := ⟨q_in 243 (by decide +kernel) rfl, q_in 84 (by decide +kernel) rfl, by decide +kernel, fun h => absurd h (by decide), fun _ => q_inN 319 (by decide +kernel) rfl⟩
theorem fX7_48 : q_fg RX7 48 7 6 := ⟨RX7, TX7, 11, rfl, wX7, by decide, q_in 357 (by decide +kernel) rfl⟩
theorem pX7_48 : q_fd RX7 48 7 6 (.object "DiverBottle$Seen") true := ⟨RX7, TX7, 11, tyX7, rfl, wX7, tyX7_ok, nmX7, by decide, by decide +kernel, rfl, fun _ => rfl, q_in 357 (by decide +kernel) rfl⟩
theorem nX7_52 : q_nf RX7 52 1 6 [some none, some none, none, none, none, none] := ⟨RX1, TX1, tyX1, rfl, wX1, tyX1_ok, q_in 320 (by decide +kernel) rfl, q_in 321 (by decide +kernel) rfl, q_in 86 (by decide +kernel) rfl, fun E j hj => by rcases (show j = 0 ∨ j = 1 ∨ j = 2 ∨ j = 3 ∨ j = 4 ∨ j = 5 by omega) with rfl | rfl | rfl | rfl | rfl | rfl <;> rfl⟩
theorem lX7_54 : q_lk RX7 YX1_init 54 0 true := ⟨q_in 324 (by decide +kernel) rfl, q_in 86 (by decide +kernel) rfl, by decide +kernel, fun h => absurd h (by decide), fun _ => q_inN 322 (by decide +kernel) rfl⟩
theorem fX7_55 : q_fg RX7 55 7 7 := ⟨RX7, TX7, 11, rfl, wX7, by decide, q_in 358 (by decide +kernel) rfl⟩
theorem pX7_55 : q_fd RX7 55 7 7 (.object "DiverBottle$Hand") true := ⟨RX7, TX7, 11, tyX7, rfl, wX7, tyX7_ok, nmX7, by decide, by decide +kernel, rfl, fun _ => rfl, q_in 358 (by decide +kernel) rfl⟩
theorem fX7_59 : q_fg RX7 59 7 8 := ⟨RX7, TX7, 11, rfl, wX7, by decide, q_in 359 (by decide +kernel) rfl⟩
theorem pX7_59 : q_fd RX7 59 7 8 (.array .boolean) true := ⟨RX7, TX7, 11, tyX7, rfl, wX7, tyX7_ok, nmX7, by decide, by decide +kernel, rfl, fun _ => rfl, q_in 359 (by decide +kernel) rfl⟩
theorem fX7_62 : q_fg RX7 62 6 0 := ⟨RX6, TX6, 2, rfl, wX6, by decide, q_in 124 (by decide +kernel) rfl⟩
theorem fX7_66 : q_fg RX7 66 3 4 := ⟨RX3, TX3, 8, rfl, wX3, by decide, q_in 272 (by decide +kernel) rfl⟩
theorem pX7_66 : q_fd RX7 66 3 4 (.int) false := ⟨RX3, TX3, 8, tyX3, rfl, wX3, tyX3_ok, nmX3, by decide, by decide +kernel, rfl, fun h => absurd h (by decide), q_in 272 (by decide +kernel) rfl⟩
theorem lX7_70 : q_lk RX7 YX2_append 70 1 false := ⟨q_in 392 (by decide +kernel) rfl, q_in 80 (by decide +kernel) rfl, by decide +kernel, fun _ => q_in 389 (by decide +kernel) rfl, fun h => absurd h (by decide)⟩
theorem fX7_74 : q_fg RX7 74 2 4 := ⟨RX2, TX2, 13, rfl, wX2, by decide, q_in 190 (by decide +kernel) rfl⟩
theorem pX7_74 : q_fd RX7 74 2 4 (.int) false := ⟨RX2, TX2, 13, tyX2, rfl, wX2, tyX2_ok, nmX2, by decide, by decide +kernel, rfl, fun h => absurd h (by decide), q_in 190 (by decide +kernel) rfl⟩
theorem lX7_77 : q_lk RX7 YX7_within 77 3 false := ⟨q_in 399 (by decide +kernel) rfl, q_in 79 (by decide +kernel) rfl, by decide +kernel, fun _ => q_in 397 (by decide +kernel) rfl, fun h => absurd h (by decide)⟩
theorem lX7_81 : q_lk RX7 YX2_takeText 81 0 false := ⟨q_in 407 (by decide +kernel) rfl, q_in 80 (by decide +kernel) rfl, by decide +kernel, fun _ => q_in 404 (by decide +kernel) rfl, fun h => absurd h (by decide)⟩
theorem fX7_85 : q_fg RX7 85 2 7 := ⟨RX2, TX2, 13, rfl, wX2, by decide, q_in 195 (by decide +kernel) rfl⟩
theorem fX7_88 : q_fg RX7 88 7 9 := ⟨RX7, TX7, 11, rfl, wX7, by decide, q_in 360 (by decide +kernel) rfl⟩
theorem pX7_88 : q_fd RX7 88 7 9 (.int) false := ⟨RX7, TX7, 11, tyX7, rfl, wX7, tyX7_ok, nmX7, by decide, by decide +kernel, rfl, fun h => absurd h (by decide), q_in 360 (by decide +kernel) rfl⟩
theorem fX7_91 : q_fg RX7 91 2 8 := ⟨RX2, TX2, 13, rfl, wX2, by decide, q_in 197 (by decide +kernel) rfl⟩
theorem fX7_94 : q_fg RX7 94 2 1 := ⟨RX2, TX2, 13, rfl, wX2, by decide, q_in 185 (by decide +kernel) rfl⟩
theorem lX7_95 : q_lk RX7 YX6_copyFrom 95 1 false := ⟨q_in 533 (by decide +kernel) rfl, q_in 81 (by decide +kernel) rfl, by decide +kernel, fun _ => q_in 530 (by decide +kernel) rfl, fun h => absurd h (by decide)⟩
theorem fX7_99 : q_fg RX7 99 2 2 := ⟨RX2, TX2, 13, rfl, wX2, by decide, q_in 187 (by decide +kernel) rfl⟩
theorem fX7_103 : q_fg RX7 103 2 5 := ⟨RX2, TX2, 13, rfl, wX2, by decide, q_in 192 (by decide +kernel) rfl⟩
theorem lX7_106 : q_lk RX7 YX3_begin 106 3 false := ⟨q_in 537 (by decide +kernel) rfl, q_in 83 (by decide +kernel) rfl, by decide +kernel, fun _ => q_in 534 (by decide +kernel) rfl, fun h => absurd h (by decide)⟩
theorem fX7_110 : q_fg RX7 110 2 6 := ⟨RX2, TX2, 13, rfl, wX2, by decide, q_in 194 (by decide +kernel) rfl⟩
theorem fX7_113 : q_fg RX7 113 6 1 := ⟨RX6, TX6, 2, rfl, wX6, by decide, q_in 128 (by decide +kernel) rfl⟩
theorem lX7_116 : q_lk RX7 YX7_isDiver 116 1 false := ⟨q_in 564 (by decide +kernel) rfl, q_in 79 (by decide +kernel) rfl, by decide +kernel, fun _ => q_in 561 (by decide +kernel) rfl, fun h => absurd h (by decide)⟩
theorem kX7_120 : Cond.constant RX7 120 (-1000000 : Int32) ∈ q_T := q_in 565 (by decide +kernel) rfl
theorem fX7_121 : q_fg RX7 121 3 0 := ⟨RX3, TX3, 8, rfl, wX3, by decide, q_in 265 (by decide +kernel) rfl⟩
theorem fX7_122 : q_fg RX7 122 0 0 := ⟨RX0, TX0, 8, rfl, wX0, by decide, q_in 145 (by decide +kernel) rfl⟩
theorem fX7_127 : q_fg RX7 127 0 1 := ⟨RX0, TX0, 8, rfl, wX0, by decide, q_in 147 (by decide +kernel) rfl⟩
theorem pX7_127 : q_fd RX7 127 0 1 (.int) false := ⟨RX0, TX0, 8, tyX0, rfl, wX0, tyX0_ok, nmX0, by decide, by decide +kernel, rfl, fun h => absurd h (by decide), q_in 147 (by decide +kernel) rfl⟩
theorem fX7_130 : q_fg RX7 130 0 2 := ⟨RX0, TX0, 8, rfl, wX0, by decide, q_in 149 (by decide +kernel) rfl⟩
theorem fX7_133 : q_fg RX7 133 0 3 := ⟨RX0, TX0, 8, rfl, wX0, by decide, q_in 152 (by decide +kernel) rfl⟩
theorem fX7_136 : q_fg RX7 136 0 7 := ⟨RX0, TX0, 8, rfl, wX0, by decide, q_in 163 (by decide +kernel) rfl⟩
theorem lX7_140 : q_lk RX7 YX7_bit 140 1 false := ⟨q_in 568 (by decide +kernel) rfl, q_in 79 (by decide +kernel) rfl, by decide +kernel, fun _ => q_in 566 (by decide +kernel) rfl, fun h => absurd h (by decide)⟩
theorem fX7_144 : q_fg RX7 144 0 4 := ⟨RX0, TX0, 8, rfl, wX0, by decide, q_in 155 (by decide +kernel) rfl⟩
theorem pX7_144 : q_fd RX7 144 0 4 (.int) false := ⟨RX0, TX0, 8, tyX0, rfl, wX0, tyX0_ok, nmX0, by decide, by decide +kernel, rfl, fun h => absurd h (by decide), q_in 155 (by decide +kernel) rfl⟩
theorem lX7_147 : q_lk RX7 YX0_depth 147 0 false := ⟨q_in 572 (by decide +kernel) rfl, q_in 82 (by decide +kernel) rfl, by decide +kernel, fun _ => q_in 569 (by decide +kernel) rfl, fun h => absurd h (by decide)⟩
theorem fX7_151 : q_fg RX7 151 0 5 := ⟨RX0, TX0, 8, rfl, wX0, by decide, q_in 158 (by decide +kernel) rfl⟩
theorem pX7_151 : q_fd RX7 151 0 5 (.int) false := ⟨RX0, TX0, 8, tyX0, rfl, wX0, tyX0_ok, nmX0, by decide, by decide +kernel, rfl, fun h => absurd h (by decide), q_in 158 (by decide +kernel) rfl⟩
theorem fX7_154 : q_fg RX7 154 0 6 := ⟨RX0, TX0, 8, rfl, wX0, by decide, q_in 161 (by decide +kernel) rfl⟩
theorem pX7_154 : q_fd RX7 154 0 6 (.int) false := ⟨RX0, TX0, 8, tyX0, rfl, wX0, tyX0_ok, nmX0, by decide, by decide +kernel, rfl, fun h => absurd h (by decide), q_in 161 (by decide +kernel) rfl⟩
theorem fX7_157 : q_fg RX7 157 3 3 := ⟨RX3, TX3, 8, rfl, wX3, by decide, q_in 271 (by decide +kernel) rfl⟩
theorem pX7_157 : q_fd RX7 157 3 3 (.int) false := ⟨RX3, TX3, 8, tyX3, rfl, wX3, tyX3_ok, nmX3, by decide, by decide +kernel, rfl, fun h => absurd h (by decide), q_in 271 (by decide +kernel) rfl⟩
theorem lX7_160 : q_lk RX7 YX7_weightOf 160 3 false := ⟨q_in 579 (by decide +kernel) rfl, q_in 79 (by decide +kernel) rfl, by decide +kernel, fun _ => q_in 576 (by decide +kernel) rfl, fun h => absurd h (by decide)⟩
theorem lX7_164 : q_lk RX7 YX7_isThumb 164 1 false := ⟨q_in 599 (by decide +kernel) rfl, q_in 79 (by decide +kernel) rfl, by decide +kernel, fun _ => q_in 597 (by decide +kernel) rfl, fun h => absurd h (by decide)⟩
theorem gX7_167 : Cond.fieldLink RX7 167 "DiverBottle" (q_nm 1) "[I" ∈ q_T ∨ Cond.fieldLinkNest RX7 167 "DiverBottle" (q_nm 1) "[I" "DiverBottle" ∈ q_N := Or.inl (q_in 604 (by decide +kernel) rfl)
theorem gX7_170 : Cond.fieldLink RX7 170 "DiverBottle" (q_nm 2) "[I" ∈ q_T ∨ Cond.fieldLinkNest RX7 170 "DiverBottle" (q_nm 2) "[I" "DiverBottle" ∈ q_N := Or.inl (q_in 605 (by decide +kernel) rfl)
theorem fX7_173 : q_fg RX7 173 3 2 := ⟨RX3, TX3, 8, rfl, wX3, by decide, q_in 269 (by decide +kernel) rfl⟩
theorem lX7_174 : q_lk RX7 YX7_moveDiver 174 1 false := ⟨q_in 613 (by decide +kernel) rfl, q_in 79 (by decide +kernel) rfl, by decide +kernel, fun _ => q_in 610 (by decide +kernel) rfl, fun h => absurd h (by decide)⟩
theorem fX7_178 : q_fg RX7 178 3 5 := ⟨RX3, TX3, 8, rfl, wX3, by decide, q_in 275 (by decide +kernel) rfl⟩
theorem pX7_178 : q_fd RX7 178 3 5 (.int) false := ⟨RX3, TX3, 8, tyX3, rfl, wX3, tyX3_ok, nmX3, by decide, by decide +kernel, rfl, fun h => absurd h (by decide), q_in 275 (by decide +kernel) rfl⟩
theorem lX7_181 : q_lk RX7 YX6_floor 181 0 false := ⟨q_in 617 (by decide +kernel) rfl, q_in 81 (by decide +kernel) rfl, by decide +kernel, fun _ => q_in 614 (by decide +kernel) rfl, fun h => absurd h (by decide)⟩
theorem lX7_184 : q_lk RX7 YX7_diversAt 184 1 false := ⟨q_in 640 (by decide +kernel) rfl, q_in 79 (by decide +kernel) rfl, by decide +kernel, fun _ => q_in 637 (by decide +kernel) rfl, fun h => absurd h (by decide)⟩
theorem lX7_188 : q_lk RX7 YX7_isDepth 188 1 false := ⟨q_in 648 (by decide +kernel) rfl, q_in 79 (by decide +kernel) rfl, by decide +kernel, fun _ => q_in 645 (by decide +kernel) rfl, fun h => absurd h (by decide)⟩
theorem fX7_191 : q_fg RX7 191 3 7 := ⟨RX3, TX3, 8, rfl, wX3, by decide, q_in 279 (by decide +kernel) rfl⟩
theorem pX7_191 : q_fd RX7 191 3 7 (.boolean) false := ⟨RX3, TX3, 8, tyX3, rfl, wX3, tyX3_ok, nmX3, by decide, by decide +kernel, rfl, fun h => absurd h (by decide), q_in 279 (by decide +kernel) rfl⟩
theorem fX7_194 : q_fg RX7 194 3 6 := ⟨RX3, TX3, 8, rfl, wX3, by decide, q_in 277 (by decide +kernel) rfl⟩
theorem pX7_194 : q_fd RX7 194 3 6 (.int) false := ⟨RX3, TX3, 8, tyX3, rfl, wX3, tyX3_ok, nmX3, by decide, by decide +kernel, rfl, fun h => absurd h (by decide), q_in 277 (by decide +kernel) rfl⟩
theorem lX7_197 : q_lk RX7 YX6_pressAt 197 2 false := ⟨q_in 587 (by decide +kernel) rfl, q_in 81 (by decide +kernel) rfl, by decide +kernel, fun _ => q_in 661 (by decide +kernel) rfl, fun h => absurd h (by decide)⟩
theorem lX7_201 : q_lk RX7 YX7_thumbOf 201 1 false := ⟨q_in 685 (by decide +kernel) rfl, q_in 79 (by decide +kernel) rfl, by decide +kernel, fun _ => q_in 682 (by decide +kernel) rfl, fun h => absurd h (by decide)⟩
theorem lX7_204 : q_lk RX7 YX7_diversAhead 204 1 false := ⟨q_in 695 (by decide +kernel) rfl, q_in 79 (by decide +kernel) rfl, by decide +kernel, fun _ => q_in 692 (by decide +kernel) rfl, fun h => absurd h (by decide)⟩
theorem lX7_207 : q_lk RX7 YJ9_abs_0f7a4 207 1 false := ⟨q_in 706 (by decide +kernel) rfl, q_in 92 (by decide +kernel) rfl, by decide +kernel, fun _ => q_in 704 (by decide +kernel) rfl, fun h => absurd h (by decide)⟩
theorem lX7_212 : q_lk RX7 YX6_weight 212 5 false := ⟨q_in 583 (by decide +kernel) rfl, q_in 81 (by decide +kernel) rfl, by decide +kernel, fun _ => q_in 580 (by decide +kernel) rfl, fun h => absurd h (by decide)⟩
theorem lX7_216 : q_lk RX7 YJ9_min_7cf53 216 2 false := ⟨q_in 544 (by decide +kernel) rfl, q_in 92 (by decide +kernel) rfl, by decide +kernel, fun _ => q_in 711 (by decide +kernel) rfl, fun h => absurd h (by decide)⟩
theorem lX7_219 : q_lk RX7 YX7_isHeavy 219 1 false := ⟨q_in 718 (by decide +kernel) rfl, q_in 79 (by decide +kernel) rfl, by decide +kernel, fun _ => q_in 716 (by decide +kernel) rfl, fun h => absurd h (by decide)⟩
theorem lX7_222 : q_lk RX7 YX7_comesBackFrom 222 1 false := ⟨q_in 722 (by decide +kernel) rfl, q_in 79 (by decide +kernel) rfl, by decide +kernel, fun _ => q_in 719 (by decide +kernel) rfl, fun h => absurd h (by decide)⟩
theorem lX7_225 : q_lk RX7 YX7_floatsFrom 225 3 false := ⟨q_in 730 (by decide +kernel) rfl, q_in 79 (by decide +kernel) rfl, by decide +kernel, fun _ => q_in 727 (by decide +kernel) rfl, fun h => absurd h (by decide)⟩
theorem lX7_229 : q_lk RX7 YX7_tellRange 229 3 false := ⟨q_in 740 (by decide +kernel) rfl, q_in 79 (by decide +kernel) rfl, by decide +kernel, fun _ => q_in 738 (by decide +kernel) rfl, fun h => absurd h (by decide)⟩
theorem lX7_232 : q_lk RX7 YX7_leastAtThumb 232 2 false := ⟨q_in 748 (by decide +kernel) rfl, q_in 79 (by decide +kernel) rfl, by decide +kernel, fun _ => q_in 745 (by decide +kernel) rfl, fun h => absurd h (by decide)⟩
theorem lX7_235 : q_lk RX7 YX7_greatestAtThumb 235 2 false := ⟨q_in 752 (by decide +kernel) rfl, q_in 79 (by decide +kernel) rfl, by decide +kernel, fun _ => q_in 749 (by decide +kernel) rfl, fun h => absurd h (by decide)⟩
theorem lX7_238 : q_lk RX7 YX7_findGoers 238 1 false := ⟨q_in 760 (by decide +kernel) rfl, q_in 79 (by decide +kernel) rfl, by decide +kernel, fun _ => q_in 757 (by decide +kernel) rfl, fun h => absurd h (by decide)⟩
theorem lX7_242 : q_lk RX7 YX7_goersApart 242 1 false := ⟨q_in 764 (by decide +kernel) rfl, q_in 79 (by decide +kernel) rfl, by decide +kernel, fun _ => q_in 761 (by decide +kernel) rfl, fun h => absurd h (by decide)⟩
theorem lX7_245 : q_lk RX7 YX7_firstGoer 245 0 false := ⟨q_in 768 (by decide +kernel) rfl, q_in 79 (by decide +kernel) rfl, by decide +kernel, fun _ => q_in 765 (by decide +kernel) rfl, fun h => absurd h (by decide)⟩
theorem lX7_248 : q_lk RX7 YX7_greatestGap 248 1 false := ⟨q_in 772 (by decide +kernel) rfl, q_in 79 (by decide +kernel) rfl, by decide +kernel, fun _ => q_in 769 (by decide +kernel) rfl, fun h => absurd h (by decide)⟩
theorem lX7_251 : q_lk RX7 YX7_canHold 251 4 false := ⟨q_in 780 (by decide +kernel) rfl, q_in 79 (by decide +kernel) rfl, by decide +kernel, fun _ => q_in 777 (by decide +kernel) rfl, fun h => absurd h (by decide)⟩
theorem lX7_255 : q_lk RX7 YX7_isLate 255 1 false := ⟨q_in 783 (by decide +kernel) rfl, q_in 79 (by decide +kernel) rfl, by decide +kernel, fun _ => q_in 781 (by decide +kernel) rfl, fun h => absurd h (by decide)⟩
theorem lX7_258 : q_lk RX7 YX7_isStep 258 1 false := ⟨q_in 786 (by decide +kernel) rfl, q_in 79 (by decide +kernel) rfl, by decide +kernel, fun _ => q_in 784 (by decide +kernel) rfl, fun h => absurd h (by decide)⟩
theorem lX7_261 : q_lk RX7 YX7_tryHold 261 6 false := ⟨q_in 790 (by decide +kernel) rfl, q_in 79 (by decide +kernel) rfl, by decide +kernel, fun _ => q_in 787 (by decide +kernel) rfl, fun h => absurd h (by decide)⟩
theorem fX7_265 : q_fg RX7 265 1 4 := ⟨RX1, TX1, 6, rfl, wX1, by decide, q_in 335 (by decide +kernel) rfl⟩
theorem fX7_268 : q_fg RX7 268 1 0 := ⟨RX1, TX1, 6, rfl, wX1, by decide, q_in 329 (by decide +kernel) rfl⟩
theorem fX7_272 : q_fg RX7 272 1 5 := ⟨RX1, TX1, 6, rfl, wX1, by decide, q_in 337 (by decide +kernel) rfl⟩
theorem fX7_275 : q_fg RX7 275 1 3 := ⟨RX1, TX1, 6, rfl, wX1, by decide, q_in 333 (by decide +kernel) rfl⟩
theorem lX7_276 : q_lk RX7 YX7_leavesAt 276 3 false := ⟨q_in 825 (by decide +kernel) rfl, q_in 79 (by decide +kernel) rfl, by decide +kernel, fun _ => q_in 822 (by decide +kernel) rfl, fun h => absurd h (by decide)⟩
theorem lX7_280 : q_lk RX7 YJ9_max_7cf53 280 2 false := ⟨q_in 632 (by decide +kernel) rfl, q_in 92 (by decide +kernel) rfl, by decide +kernel, fun _ => q_in 630 (by decide +kernel) rfl, fun h => absurd h (by decide)⟩
theorem lX7_283 : q_lk RX7 YX7_divideUp 283 2 false := ⟨q_in 737 (by decide +kernel) rfl, q_in 79 (by decide +kernel) rfl, by decide +kernel, fun _ => q_in 834 (by decide +kernel) rfl, fun h => absurd h (by decide)⟩
theorem lX7_286 : q_lk RX7 YX7_risesFrom 286 2 false := ⟨q_in 726 (by decide +kernel) rfl, q_in 79 (by decide +kernel) rfl, by decide +kernel, fun _ => q_in 723 (by decide +kernel) rfl, fun h => absurd h (by decide)⟩
theorem fX7_289 : q_fg RX7 289 3 1 := ⟨RX3, TX3, 8, rfl, wX3, by decide, q_in 267 (by decide +kernel) rfl⟩
theorem lX7_292 : q_lk RX7 YX4_add 292 3 false := ⟨q_in 846 (by decide +kernel) rfl, q_in 84 (by decide +kernel) rfl, by decide +kernel, fun _ => q_in 843 (by decide +kernel) rfl, fun h => absurd h (by decide)⟩
theorem fX7_296 : q_fg RX7 296 4 3 := ⟨RX4, TX4, 4, rfl, wX4, by decide, q_in 253 (by decide +kernel) rfl⟩
theorem pX7_296 : q_fd RX7 296 4 3 (.int) false := ⟨RX4, TX4, 4, tyX4, rfl, wX4, tyX4_ok, nmX4, by decide, by decide +kernel, rfl, fun h => absurd h (by decide), q_in 253 (by decide +kernel) rfl⟩
theorem fX7_299 : q_fg RX7 299 4 1 := ⟨RX4, TX4, 4, rfl, wX4, by decide, q_in 248 (by decide +kernel) rfl⟩
theorem fX7_302 : q_fg RX7 302 4 0 := ⟨RX4, TX4, 4, rfl, wX4, by decide, q_in 246 (by decide +kernel) rfl⟩
theorem fX7_305 : q_fg RX7 305 4 2 := ⟨RX4, TX4, 4, rfl, wX4, by decide, q_in 250 (by decide +kernel) rfl⟩
theorem lX7_308 : q_lk RX7 YX7_canBe 308 1 false := ⟨q_in 862 (by decide +kernel) rfl, q_in 79 (by decide +kernel) rfl, by decide +kernel, fun _ => q_in 859 (by decide +kernel) rfl, fun h => absurd h (by decide)⟩
theorem lX7_312 : q_lk RX7 YX3_copyFrom 312 1 false := ⟨q_in 870 (by decide +kernel) rfl, q_in 83 (by decide +kernel) rfl, by decide +kernel, fun _ => q_in 867 (by decide +kernel) rfl, fun h => absurd h (by decide)⟩
theorem lX7_315 : q_lk RX7 YX7_isSheet 315 1 false := ⟨q_in 886 (by decide +kernel) rfl, q_in 79 (by decide +kernel) rfl, by decide +kernel, fun _ => q_in 884 (by decide +kernel) rfl, fun h => absurd h (by decide)⟩
theorem lX7_318 : q_lk RX7 YX7_isLane 318 1 false := ⟨q_in 889 (by decide +kernel) rfl, q_in 79 (by decide +kernel) rfl, by decide +kernel, fun _ => q_in 887 (by decide +kernel) rfl, fun h => absurd h (by decide)⟩
theorem lX7_321 : q_lk RX7 YX5_renew 321 2 false := ⟨q_in 893 (by decide +kernel) rfl, q_in 85 (by decide +kernel) rfl, by decide +kernel, fun _ => q_in 890 (by decide +kernel) rfl, fun h => absurd h (by decide)⟩
theorem lX7_325 : q_lk RX7 YX5_faultAt 325 1 false := ⟨q_in 902 (by decide +kernel) rfl, q_in 85 (by decide +kernel) rfl, by decide +kernel, fun _ => q_in 899 (by decide +kernel) rfl, fun h => absurd h (by decide)⟩
theorem lX7_328 : q_lk RX7 YX5_put 328 2 false := ⟨q_in 907 (by decide +kernel) rfl, q_in 85 (by decide +kernel) rfl, by decide +kernel, fun _ => q_in 904 (by decide +kernel) rfl, fun h => absurd h (by decide)⟩
theorem lX7_331 : q_lk RX7 YX5_faultOfThree 331 2 false := ⟨q_in 916 (by decide +kernel) rfl, q_in 85 (by decide +kernel) rfl, by decide +kernel, fun _ => q_in 913 (by decide +kernel) rfl, fun h => absurd h (by decide)⟩
theorem fX7_334 : q_fg RX7 334 5 0 := ⟨RX5, TX5, 3, rfl, wX5, by decide, q_in 306 (by decide +kernel) rfl⟩
theorem fX7_337 : q_fg RX7 337 7 10 := ⟨RX7, TX7, 11, rfl, wX7, by decide, q_in 361 (by decide +kernel) rfl⟩
theorem pX7_337 : q_fd RX7 337 7 10 (.int) false := ⟨RX7, TX7, 11, tyX7, rfl, wX7, tyX7_ok, nmX7, by decide, by decide +kernel, rfl, fun h => absurd h (by decide), q_in 361 (by decide +kernel) rfl⟩
theorem lX7_340 : q_lk RX7 YX7_hooks 340 0 false := ⟨q_in 928 (by decide +kernel) rfl, q_in 79 (by decide +kernel) rfl, by decide +kernel, fun _ => q_in 925 (by decide +kernel) rfl, fun h => absurd h (by decide)⟩
theorem fX7_343 : q_fg RX7 343 5 1 := ⟨RX5, TX5, 3, rfl, wX5, by decide, q_in 308 (by decide +kernel) rfl⟩
theorem fX7_346 : q_fg RX7 346 5 2 := ⟨RX5, TX5, 3, rfl, wX5, by decide, q_in 310 (by decide +kernel) rfl⟩
theorem lX7_347 : q_lk RX7 YX0_move 347 3 false := ⟨q_in 621 (by decide +kernel) rfl, q_in 82 (by decide +kernel) rfl, by decide +kernel, fun _ => q_in 618 (by decide +kernel) rfl, fun h => absurd h (by decide)⟩
theorem lX7_351 : q_lk RX7 YX7_comeToFloor 351 1 false := ⟨q_in 629 (by decide +kernel) rfl, q_in 79 (by decide +kernel) rfl, by decide +kernel, fun _ => q_in 626 (by decide +kernel) rfl, fun h => absurd h (by decide)⟩
theorem lX7_354 : q_lk RX7 YX7_comeToTop 354 1 false := ⟨q_in 636 (by decide +kernel) rfl, q_in 79 (by decide +kernel) rfl, by decide +kernel, fun _ => q_in 633 (by decide +kernel) rfl, fun h => absurd h (by decide)⟩
theorem lX7_357 : q_lk RX7 YX6_lighterAt 357 1 false := ⟨q_in 592 (by decide +kernel) rfl, q_in 81 (by decide +kernel) rfl, by decide +kernel, fun _ => q_in 686 (by decide +kernel) rfl, fun h => absurd h (by decide)⟩
theorem lX7_360 : q_lk RX7 YX7_divideCut 360 2 false := ⟨q_in 575 (by decide +kernel) rfl, q_in 79 (by decide +kernel) rfl, by decide +kernel, fun _ => q_in 687 (by decide +kernel) rfl, fun h => absurd h (by decide)⟩
theorem lX7_363 : q_lk RX7 YX7_isAhead 363 2 false := ⟨q_in 699 (by decide +kernel) rfl, q_in 79 (by decide +kernel) rfl, by decide +kernel, fun _ => q_in 696 (by decide +kernel) rfl, fun h => absurd h (by decide)⟩
theorem lX7_367 : q_lk RX7 YX6_leastBubble 367 3 false := ⟨q_in 734 (by decide +kernel) rfl, q_in 81 (by decide +kernel) rfl, by decide +kernel, fun _ => q_in 731 (by decide +kernel) rfl, fun h => absurd h (by decide)⟩
theorem lX7_370 : q_lk RX7 YX1_takeUp 370 3 false := ⟨q_in 794 (by decide +kernel) rfl, q_in 86 (by decide +kernel) rfl, by decide +kernel, fun _ => q_in 791 (by decide +kernel) rfl, fun h => absurd h (by decide)⟩
theorem lX7_374 : q_lk RX7 YX1_turnThumb 374 3 false := ⟨q_in 799 (by decide +kernel) rfl, q_in 86 (by decide +kernel) rfl, by decide +kernel, fun _ => q_in 796 (by decide +kernel) rfl, fun h => absurd h (by decide)⟩
theorem lX7_377 : q_lk RX7 YX1_mark 377 2 false := ⟨q_in 808 (by decide +kernel) rfl, q_in 86 (by decide +kernel) rfl, by decide +kernel, fun _ => q_in 805 (by decide +kernel) rfl, fun h => absurd h (by decide)⟩
theorem oX0_3 : Cond.methodLink RX0 3 Lib.objectInit ∈ q_T := q_in 143 (by decide +kernel) rfl
theorem fX0_9 : q_fg RX0 9 0 0 := ⟨RX0, TX0, 8, rfl, wX0, by decide, q_in 144 (by decide +kernel) rfl⟩
theorem pX0_9 : q_fd RX0 9 0 0 (.int) false := ⟨RX0, TX0, 8, tyX0, rfl, wX0, tyX0_ok, nmX0, by decide, by decide +kernel, rfl, fun h => absurd h (by decide), q_in 144 (by decide +kernel) rfl⟩
theorem fX0_15 : q_fg RX0 15 0 1 := ⟨RX0, TX0, 8, rfl, wX0, by decide, q_in 146 (by decide +kernel) rfl⟩
theorem pX0_15 : q_fd RX0 15 0 1 (.int) false := ⟨RX0, TX0, 8, tyX0, rfl, wX0, tyX0_ok, nmX0, by decide, by decide +kernel, rfl, fun h => absurd h (by decide), q_in 146 (by decide +kernel) rfl⟩
theorem fX0_18 : q_fg RX0 18 0 2 := ⟨RX0, TX0, 8, rfl, wX0, by decide, q_in 148 (by decide +kernel) rfl⟩
theorem pX0_18 : q_fd RX0 18 0 2 (.int) false := ⟨RX0, TX0, 8, tyX0, rfl, wX0, tyX0_ok, nmX0, by decide, by decide +kernel, rfl, fun h => absurd h (by decide), q_in 148 (by decide +kernel) rfl⟩
theorem fX0_21 : q_fg RX0 21 0 3 := ⟨RX0, TX0, 8, rfl, wX0, by decide, q_in 151 (by decide +kernel) rfl⟩
theorem pX0_21 : q_fd RX0 21 0 3 (.int) false := ⟨RX0, TX0, 8, tyX0, rfl, wX0, tyX0_ok, nmX0, by decide, by decide +kernel, rfl, fun h => absurd h (by decide), q_in 151 (by decide +kernel) rfl⟩
theorem fX0_24 : q_fg RX0 24 0 7 := ⟨RX0, TX0, 8, rfl, wX0, by decide, q_in 162 (by decide +kernel) rfl⟩
theorem pX0_24 : q_fd RX0 24 0 7 (.boolean) false := ⟨RX0, TX0, 8, tyX0, rfl, wX0, tyX0_ok, nmX0, by decide, by decide +kernel, rfl, fun h => absurd h (by decide), q_in 162 (by decide +kernel) rfl⟩
theorem fX0_28 : q_fg RX0 28 0 4 := ⟨RX0, TX0, 8, rfl, wX0, by decide, q_in 154 (by decide +kernel) rfl⟩
theorem pX0_28 : q_fd RX0 28 0 4 (.int) false := ⟨RX0, TX0, 8, tyX0, rfl, wX0, tyX0_ok, nmX0, by decide, by decide +kernel, rfl, fun h => absurd h (by decide), q_in 154 (by decide +kernel) rfl⟩
theorem fX0_31 : q_fg RX0 31 0 5 := ⟨RX0, TX0, 8, rfl, wX0, by decide, q_in 157 (by decide +kernel) rfl⟩
theorem pX0_31 : q_fd RX0 31 0 5 (.int) false := ⟨RX0, TX0, 8, tyX0, rfl, wX0, tyX0_ok, nmX0, by decide, by decide +kernel, rfl, fun h => absurd h (by decide), q_in 157 (by decide +kernel) rfl⟩
theorem fX0_34 : q_fg RX0 34 0 6 := ⟨RX0, TX0, 8, rfl, wX0, by decide, q_in 160 (by decide +kernel) rfl⟩
theorem pX0_34 : q_fd RX0 34 0 6 (.int) false := ⟨RX0, TX0, 8, tyX0, rfl, wX0, tyX0_ok, nmX0, by decide, by decide +kernel, rfl, fun h => absurd h (by decide), q_in 160 (by decide +kernel) rfl⟩
theorem lX0_37 : q_lk RX0 YX7_divideCut 37 2 true := ⟨q_in 575 (by decide +kernel) rfl, q_in 79 (by decide +kernel) rfl, by decide +kernel, fun h => absurd h (by decide), fun _ => q_inN 573 (by decide +kernel) rfl⟩
theorem lX0_41 : q_lk RX0 YX0_stopAt 41 1 false := ⟨q_in 625 (by decide +kernel) rfl, q_in 82 (by decide +kernel) rfl, by decide +kernel, fun _ => q_in 622 (by decide +kernel) rfl, fun h => absurd h (by decide)⟩
theorem oX1_3 : Cond.methodLink RX1 3 Lib.objectInit ∈ q_T := q_in 325 (by decide +kernel) rfl
theorem nX1_9 : q_nf RX1 9 0 8 [none, none, none, none, none, none, none, none] := ⟨RX0, TX0, tyX0, rfl, wX0, tyX0_ok, q_in 326 (by decide +kernel) rfl, q_in 139 (by decide +kernel) rfl, q_in 82 (by decide +kernel) rfl, fun E j hj => by rcases (show j = 0 ∨ j = 1 ∨ j = 2 ∨ j = 3 ∨ j = 4 ∨ j = 5 ∨ j = 6 ∨ j = 7 by omega) with rfl | rfl | rfl | rfl | rfl | rfl | rfl | rfl <;> rfl⟩
theorem lX1_11 : q_lk RX1 YX0_init 11 0 true := ⟨q_in 142 (by decide +kernel) rfl, q_in 82 (by decide +kernel) rfl, by decide +kernel, fun h => absurd h (by decide), fun _ => q_inN 327 (by decide +kernel) rfl⟩
theorem fX1_12 : q_fg RX1 12 1 0 := ⟨RX1, TX1, 6, rfl, wX1, by decide, q_in 328 (by decide +kernel) rfl⟩
theorem pX1_12 : q_fd RX1 12 1 0 (.object "DiverBottle$Diver") true := ⟨RX1, TX1, 6, tyX1, rfl, wX1, tyX1_ok, nmX1, by decide, by decide +kernel, rfl, fun _ => rfl, q_in 328 (by decide +kernel) rfl⟩
theorem fX1_18 : q_fg RX1 18 1 1 := ⟨RX1, TX1, 6, rfl, wX1, by decide, q_in 330 (by decide +kernel) rfl⟩
theorem pX1_18 : q_fd RX1 18 1 1 (.array .int) true := ⟨RX1, TX1, 6, tyX1, rfl, wX1, tyX1_ok, nmX1, by decide, by decide +kernel, rfl, fun _ => rfl, q_in 330 (by decide +kernel) rfl⟩
theorem lX1_22 : q_lk RX1 YX0_copyFrom 22 1 false := ⟨q_in 548 (by decide +kernel) rfl, q_in 82 (by decide +kernel) rfl, by decide +kernel, fun _ => q_in 795 (by decide +kernel) rfl, fun h => absurd h (by decide)⟩
theorem fX1_26 : q_fg RX1 26 1 2 := ⟨RX1, TX1, 6, rfl, wX1, by decide, q_in 331 (by decide +kernel) rfl⟩
theorem pX1_26 : q_fd RX1 26 1 2 (.int) false := ⟨RX1, TX1, 6, tyX1, rfl, wX1, tyX1_ok, nmX1, by decide, by decide +kernel, rfl, fun h => absurd h (by decide), q_in 331 (by decide +kernel) rfl⟩
theorem fX1_30 : q_fg RX1 30 0 5 := ⟨RX0, TX0, 8, rfl, wX0, by decide, q_in 156 (by decide +kernel) rfl⟩
theorem pX1_30 : q_fd RX1 30 0 5 (.int) false := ⟨RX0, TX0, 8, tyX0, rfl, wX0, tyX0_ok, nmX0, by decide, by decide +kernel, rfl, fun h => absurd h (by decide), q_in 156 (by decide +kernel) rfl⟩
theorem pX1_33 : q_fd RX1 33 0 6 (.int) false := ⟨RX0, TX0, 8, tyX0, rfl, wX0, tyX0_ok, nmX0, by decide, by decide +kernel, rfl, fun h => absurd h (by decide), q_in 159 (by decide +kernel) rfl⟩
theorem fX1_36 : q_fg RX1 36 1 3 := ⟨RX1, TX1, 6, rfl, wX1, by decide, q_in 332 (by decide +kernel) rfl⟩
theorem pX1_36 : q_fd RX1 36 1 3 (.int) false := ⟨RX1, TX1, 6, tyX1, rfl, wX1, tyX1_ok, nmX1, by decide, by decide +kernel, rfl, fun h => absurd h (by decide), q_in 332 (by decide +kernel) rfl⟩
theorem pX1_39 : q_fd RX1 39 1 4 (.int) false := ⟨RX1, TX1, 6, tyX1, rfl, wX1, tyX1_ok, nmX1, by decide, by decide +kernel, rfl, fun h => absurd h (by decide), q_in 334 (by decide +kernel) rfl⟩
theorem fX1_42 : q_fg RX1 42 1 5 := ⟨RX1, TX1, 6, rfl, wX1, by decide, q_in 336 (by decide +kernel) rfl⟩
theorem pX1_42 : q_fd RX1 42 1 5 (.int) false := ⟨RX1, TX1, 6, tyX1, rfl, wX1, tyX1_ok, nmX1, by decide, by decide +kernel, rfl, fun h => absurd h (by decide), q_in 336 (by decide +kernel) rfl⟩
theorem lX1_45 : q_lk RX1 YJ9_floorMod_7cf53 45 2 false := ⟨q_in 802 (by decide +kernel) rfl, q_in 92 (by decide +kernel) rfl, by decide +kernel, fun _ => q_in 800 (by decide +kernel) rfl, fun h => absurd h (by decide)⟩
theorem lX1_51 : q_lk RX1 YJ9_min_7cf53 51 2 false := ⟨q_in 544 (by decide +kernel) rfl, q_in 92 (by decide +kernel) rfl, by decide +kernel, fun _ => q_in 803 (by decide +kernel) rfl, fun h => absurd h (by decide)⟩
theorem lX1_54 : q_lk RX1 YJ9_max_7cf53 54 2 false := ⟨q_in 632 (by decide +kernel) rfl, q_in 92 (by decide +kernel) rfl, by decide +kernel, fun _ => q_in 804 (by decide +kernel) rfl, fun h => absurd h (by decide)⟩
theorem lX1_57 : q_lk RX1 YJ9_abs_0f7a4 57 1 false := ⟨q_in 706 (by decide +kernel) rfl, q_in 92 (by decide +kernel) rfl, by decide +kernel, fun _ => q_in 809 (by decide +kernel) rfl, fun h => absurd h (by decide)⟩
theorem oX2_3 : Cond.methodLink RX2 3 Lib.objectInit ∈ q_T := q_in 106 (by decide +kernel) rfl
theorem fX2_9 : q_fg RX2 9 2 0 := ⟨RX2, TX2, 13, rfl, wX2, by decide, q_in 183 (by decide +kernel) rfl⟩
theorem pX2_9 : q_fd RX2 9 2 0 (.array .byte) true := ⟨RX2, TX2, 13, tyX2, rfl, wX2, tyX2_ok, nmX2, by decide, by decide +kernel, rfl, fun _ => rfl, q_in 183 (by decide +kernel) rfl⟩
theorem nX2_15 : q_nf RX2 15 6 2 [some none, some none] := ⟨RX6, TX6, tyX6, rfl, wX6, tyX6_ok, q_in 107 (by decide +kernel) rfl, q_in 108 (by decide +kernel) rfl, q_in 81 (by decide +kernel) rfl, fun E j hj => by rcases (show j = 0 ∨ j = 1 by omega) with rfl | rfl <;> rfl⟩
theorem lX2_17 : q_lk RX2 YX6_init 17 0 false := ⟨q_in 111 (by decide +kernel) rfl, q_in 81 (by decide +kernel) rfl, by decide +kernel, fun _ => q_in 109 (by decide +kernel) rfl, fun h => absurd h (by decide)⟩
theorem fX2_18 : q_fg RX2 18 2 1 := ⟨RX2, TX2, 13, rfl, wX2, by decide, q_in 184 (by decide +kernel) rfl⟩
theorem pX2_18 : q_fd RX2 18 2 1 (.object "DiverBottle$Water") true := ⟨RX2, TX2, 13, tyX2, rfl, wX2, tyX2_ok, nmX2, by decide, by decide +kernel, rfl, fun _ => rfl, q_in 184 (by decide +kernel) rfl⟩
theorem qX2_22 : Cond.classLink RX2 22 (q_oc 3) ∈ q_T := q_in 137 (by decide +kernel) rfl
theorem nX2_22 : q_nf RX2 22 0 8 [none, none, none, none, none, none, none, none] := ⟨RX0, TX0, tyX0, rfl, wX0, tyX0_ok, q_in 137 (by decide +kernel) rfl, q_in 139 (by decide +kernel) rfl, q_in 82 (by decide +kernel) rfl, fun E j hj => by rcases (show j = 0 ∨ j = 1 ∨ j = 2 ∨ j = 3 ∨ j = 4 ∨ j = 5 ∨ j = 6 ∨ j = 7 by omega) with rfl | rfl | rfl | rfl | rfl | rfl | rfl | rfl <;> rfl⟩
theorem fX2_24 : q_fg RX2 24 2 2 := ⟨RX2, TX2, 13, rfl, wX2, by decide, q_in 186 (by decide +kernel) rfl⟩
theorem pX2_24 : q_fd RX2 24 2 2 (.array (.object "DiverBottle$Diver")) true := ⟨RX2, TX2, 13, tyX2, rfl, wX2, tyX2_ok, nmX2, by decide, by decide +kernel, rfl, fun _ => rfl, q_in 186 (by decide +kernel) rfl⟩
theorem fX2_28 : q_fg RX2 28 2 3 := ⟨RX2, TX2, 13, rfl, wX2, by decide, q_in 188 (by decide +kernel) rfl⟩
theorem pX2_28 : q_fd RX2 28 2 3 (.array .boolean) true := ⟨RX2, TX2, 13, tyX2, rfl, wX2, tyX2_ok, nmX2, by decide, by decide +kernel, rfl, fun _ => rfl, q_in 188 (by decide +kernel) rfl⟩
theorem lX2_32 : q_lk RX2 YX0_init 32 0 true := ⟨q_in 142 (by decide +kernel) rfl, q_in 82 (by decide +kernel) rfl, by decide +kernel, fun h => absurd h (by decide), fun _ => q_inN 140 (by decide +kernel) rfl⟩
theorem fX2_33 : q_fg RX2 33 2 4 := ⟨RX2, TX2, 13, rfl, wX2, by decide, q_in 189 (by decide +kernel) rfl⟩
theorem pX2_33 : q_fd RX2 33 2 4 (.int) false := ⟨RX2, TX2, 13, tyX2, rfl, wX2, tyX2_ok, nmX2, by decide, by decide +kernel, rfl, fun h => absurd h (by decide), q_in 189 (by decide +kernel) rfl⟩
theorem lX2_37 : q_lk RX2 YX2_begin 37 0 false := ⟨q_in 411 (by decide +kernel) rfl, q_in 80 (by decide +kernel) rfl, by decide +kernel, fun _ => q_in 408 (by decide +kernel) rfl, fun h => absurd h (by decide)⟩
theorem lX2_40 : q_lk RX2 YX2_nextToken 40 0 false := ⟨q_in 416 (by decide +kernel) rfl, q_in 80 (by decide +kernel) rfl, by decide +kernel, fun _ => q_in 413 (by decide +kernel) rfl, fun h => absurd h (by decide)⟩
theorem fX2_44 : q_fg RX2 44 2 10 := ⟨RX2, TX2, 13, rfl, wX2, by decide, q_in 200 (by decide +kernel) rfl⟩
theorem pX2_44 : q_fd RX2 44 2 10 (.int) false := ⟨RX2, TX2, 13, tyX2, rfl, wX2, tyX2_ok, nmX2, by decide, by decide +kernel, rfl, fun h => absurd h (by decide), q_in 200 (by decide +kernel) rfl⟩
theorem lX2_47 : q_lk RX2 YX6_fillWarmths 47 0 false := ⟨q_in 122 (by decide +kernel) rfl, q_in 81 (by decide +kernel) rfl, by decide +kernel, fun _ => q_in 425 (by decide +kernel) rfl, fun h => absurd h (by decide)⟩
theorem lX2_52 : q_lk RX2 YX2_isName 52 1 false := ⟨q_in 430 (by decide +kernel) rfl, q_in 80 (by decide +kernel) rfl, by decide +kernel, fun _ => q_in 427 (by decide +kernel) rfl, fun h => absurd h (by decide)⟩
theorem lX2_56 : q_lk RX2 YX2_takeDiver 56 0 false := ⟨q_in 482 (by decide +kernel) rfl, q_in 80 (by decide +kernel) rfl, by decide +kernel, fun _ => q_in 479 (by decide +kernel) rfl, fun h => absurd h (by decide)⟩
theorem lX2_61 : q_lk RX2 YX2_takeHour 61 0 false := ⟨q_in 503 (by decide +kernel) rfl, q_in 80 (by decide +kernel) rfl, by decide +kernel, fun _ => q_in 500 (by decide +kernel) rfl, fun h => absurd h (by decide)⟩
theorem lX2_64 : q_lk RX2 YX2_takeRuleLine 64 0 false := ⟨q_in 515 (by decide +kernel) rfl, q_in 80 (by decide +kernel) rfl, by decide +kernel, fun _ => q_in 512 (by decide +kernel) rfl, fun h => absurd h (by decide)⟩
theorem fX2_67 : q_fg RX2 67 2 6 := ⟨RX2, TX2, 13, rfl, wX2, by decide, q_in 193 (by decide +kernel) rfl⟩
theorem pX2_67 : q_fd RX2 67 2 6 (.int) false := ⟨RX2, TX2, 13, tyX2, rfl, wX2, tyX2_ok, nmX2, by decide, by decide +kernel, rfl, fun h => absurd h (by decide), q_in 193 (by decide +kernel) rfl⟩
theorem lX2_70 : q_lk RX2 YX2_fail 70 1 false := ⟨q_in 424 (by decide +kernel) rfl, q_in 80 (by decide +kernel) rfl, by decide +kernel, fun _ => q_in 421 (by decide +kernel) rfl, fun h => absurd h (by decide)⟩
theorem lX2_74 : q_lk RX2 YX6_begin 74 0 false := ⟨q_in 116 (by decide +kernel) rfl, q_in 81 (by decide +kernel) rfl, by decide +kernel, fun _ => q_in 412 (by decide +kernel) rfl, fun h => absurd h (by decide)⟩
theorem fX2_75 : q_fg RX2 75 2 5 := ⟨RX2, TX2, 13, rfl, wX2, by decide, q_in 191 (by decide +kernel) rfl⟩
theorem pX2_75 : q_fd RX2 75 2 5 (.int) false := ⟨RX2, TX2, 13, tyX2, rfl, wX2, tyX2_ok, nmX2, by decide, by decide +kernel, rfl, fun h => absurd h (by decide), q_in 191 (by decide +kernel) rfl⟩
theorem fX2_78 : q_fg RX2 78 2 9 := ⟨RX2, TX2, 13, rfl, wX2, by decide, q_in 199 (by decide +kernel) rfl⟩
theorem pX2_78 : q_fd RX2 78 2 9 (.int) false := ⟨RX2, TX2, 13, tyX2, rfl, wX2, tyX2_ok, nmX2, by decide, by decide +kernel, rfl, fun h => absurd h (by decide), q_in 199 (by decide +kernel) rfl⟩
theorem pX2_81 : q_fd RX2 81 2 7 (.int) false := ⟨RX2, TX2, 13, tyX2, rfl, wX2, tyX2_ok, nmX2, by decide, by decide +kernel, rfl, fun h => absurd h (by decide), q_in 196 (by decide +kernel) rfl⟩
theorem pX2_84 : q_fd RX2 84 2 8 (.int) false := ⟨RX2, TX2, 13, tyX2, rfl, wX2, tyX2_ok, nmX2, by decide, by decide +kernel, rfl, fun h => absurd h (by decide), q_in 198 (by decide +kernel) rfl⟩
theorem fX2_87 : q_fg RX2 87 2 11 := ⟨RX2, TX2, 13, rfl, wX2, by decide, q_in 201 (by decide +kernel) rfl⟩
theorem pX2_87 : q_fd RX2 87 2 11 (.int) false := ⟨RX2, TX2, 13, tyX2, rfl, wX2, tyX2_ok, nmX2, by decide, by decide +kernel, rfl, fun h => absurd h (by decide), q_in 201 (by decide +kernel) rfl⟩
theorem lX2_90 : q_lk RX2 YX2_kindAt 90 1 false := ⟨q_in 420 (by decide +kernel) rfl, q_in 80 (by decide +kernel) rfl, by decide +kernel, fun _ => q_in 417 (by decide +kernel) rfl, fun h => absurd h (by decide)⟩
theorem lX2_94 : q_lk RX2 YJ0_length_8abf5 94 0 false := ⟨q_in 434 (by decide +kernel) rfl, q_in 88 (by decide +kernel) rfl, by decide +kernel, fun _ => q_in 431 (by decide +kernel) rfl, fun h => absurd h (by decide)⟩
theorem lX2_99 : q_lk RX2 YJ0_charAt_5068e 99 1 false := ⟨q_in 444 (by decide +kernel) rfl, q_in 88 (by decide +kernel) rfl, by decide +kernel, fun _ => q_in 441 (by decide +kernel) rfl, fun h => absurd h (by decide)⟩
theorem fX2_103 : q_fg RX2 103 2 12 := ⟨RX2, TX2, 13, rfl, wX2, by decide, q_in 202 (by decide +kernel) rfl⟩
theorem pX2_103 : q_fd RX2 103 2 12 (.int) false := ⟨RX2, TX2, 13, tyX2, rfl, wX2, tyX2_ok, nmX2, by decide, by decide +kernel, rfl, fun h => absurd h (by decide), q_in 202 (by decide +kernel) rfl⟩
theorem lX2_106 : q_lk RX2 YX7_within 106 3 true := ⟨q_in 399 (by decide +kernel) rfl, q_in 79 (by decide +kernel) rfl, by decide +kernel, fun h => absurd h (by decide), fun _ => q_inN 487 (by decide +kernel) rfl⟩
theorem lX2_110 : q_lk RX2 YX2_ruleNamed 110 0 false := ⟨q_in 519 (by decide +kernel) rfl, q_in 80 (by decide +kernel) rfl, by decide +kernel, fun _ => q_in 516 (by decide +kernel) rfl, fun h => absurd h (by decide)⟩
theorem lX2_113 : q_lk RX2 YX2_takeRule 113 1 false := ⟨q_in 529 (by decide +kernel) rfl, q_in 80 (by decide +kernel) rfl, by decide +kernel, fun _ => q_in 526 (by decide +kernel) rfl, fun h => absurd h (by decide)⟩
theorem lX2_116 : q_lk RX2 YX2_takeStop 116 0 false := ⟨q_in 511 (by decide +kernel) rfl, q_in 80 (by decide +kernel) rfl, by decide +kernel, fun _ => q_in 508 (by decide +kernel) rfl, fun h => absurd h (by decide)⟩
theorem gX2_131 : Cond.fieldLink RX2 131 "DiverBottle" (q_nm 1) "[I" ∈ q_T ∨ Cond.fieldLinkNest RX2 131 "DiverBottle" (q_nm 1) "[I" "DiverBottle" ∈ q_N := Or.inr (q_inN 504 (by decide +kernel) rfl)
theorem gX2_135 : Cond.fieldLink RX2 135 "DiverBottle" (q_nm 2) "[I" ∈ q_T ∨ Cond.fieldLinkNest RX2 135 "DiverBottle" (q_nm 2) "[I" "DiverBottle" ∈ q_N := Or.inr (q_inN 506 (by decide +kernel) rfl)
theorem lX2_138 : q_lk RX2 YX2_takeNumber 138 2 false := ⟨q_in 486 (by decide +kernel) rfl, q_in 80 (by decide +kernel) rfl, by decide +kernel, fun _ => q_in 483 (by decide +kernel) rfl, fun h => absurd h (by decide)⟩
theorem fX2_142 : q_fg RX2 142 6 0 := ⟨RX6, TX6, 2, rfl, wX6, by decide, q_in 126 (by decide +kernel) rfl⟩
theorem fX2_145 : q_fg RX2 145 6 1 := ⟨RX6, TX6, 2, rfl, wX6, by decide, q_in 129 (by decide +kernel) rfl⟩
theorem lX2_148 : q_lk RX2 YX0_begin 148 2 false := ⟨q_in 491 (by decide +kernel) rfl, q_in 82 (by decide +kernel) rfl, by decide +kernel, fun _ => q_in 488 (by decide +kernel) rfl, fun h => absurd h (by decide)⟩
theorem lX2_151 : q_lk RX2 YX2_takeWiths 151 1 false := ⟨q_in 495 (by decide +kernel) rfl, q_in 80 (by decide +kernel) rfl, by decide +kernel, fun _ => q_in 492 (by decide +kernel) rfl, fun h => absurd h (by decide)⟩
theorem pX2_157 : q_fd RX2 157 0 2 (.int) false := ⟨RX0, TX0, 8, tyX0, rfl, wX0, tyX0_ok, nmX0, by decide, by decide +kernel, rfl, fun h => absurd h (by decide), q_in 150 (by decide +kernel) rfl⟩
theorem pX2_161 : q_fd RX2 161 0 3 (.int) false := ⟨RX0, TX0, 8, tyX0, rfl, wX0, tyX0_ok, nmX0, by decide, by decide +kernel, rfl, fun h => absurd h (by decide), q_in 153 (by decide +kernel) rfl⟩
theorem fX2_165 : q_fg RX2 165 0 7 := ⟨RX0, TX0, 8, rfl, wX0, by decide, q_in 164 (by decide +kernel) rfl⟩
theorem pX2_165 : q_fd RX2 165 0 7 (.boolean) false := ⟨RX0, TX0, 8, tyX0, rfl, wX0, tyX0_ok, nmX0, by decide, by decide +kernel, rfl, fun h => absurd h (by decide), q_in 164 (by decide +kernel) rfl⟩
theorem oX3_3 : Cond.methodLink RX3 3 Lib.objectInit ∈ q_T := q_in 237 (by decide +kernel) rfl
theorem qX3_9 : Cond.classLink RX3 9 (q_oc 3) ∈ q_T := q_in 238 (by decide +kernel) rfl
theorem nX3_9 : q_nf RX3 9 0 8 [none, none, none, none, none, none, none, none] := ⟨RX0, TX0, tyX0, rfl, wX0, tyX0_ok, q_in 238 (by decide +kernel) rfl, q_in 139 (by decide +kernel) rfl, q_in 82 (by decide +kernel) rfl, fun E j hj => by rcases (show j = 0 ∨ j = 1 ∨ j = 2 ∨ j = 3 ∨ j = 4 ∨ j = 5 ∨ j = 6 ∨ j = 7 by omega) with rfl | rfl | rfl | rfl | rfl | rfl | rfl | rfl <;> rfl⟩
theorem fX3_11 : q_fg RX3 11 3 0 := ⟨RX3, TX3, 8, rfl, wX3, by decide, q_in 264 (by decide +kernel) rfl⟩
theorem pX3_11 : q_fd RX3 11 3 0 (.array (.object "DiverBottle$Diver")) true := ⟨RX3, TX3, 8, tyX3, rfl, wX3, tyX3_ok, nmX3, by decide, by decide +kernel, rfl, fun _ => rfl, q_in 264 (by decide +kernel) rfl⟩
theorem nX3_17 : q_nf RX3 17 4 4 [some none, some none, some none, none] := ⟨RX4, TX4, tyX4, rfl, wX4, tyX4_ok, q_in 239 (by decide +kernel) rfl, q_in 240 (by decide +kernel) rfl, q_in 84 (by decide +kernel) rfl, fun E j hj => by rcases (show j = 0 ∨ j = 1 ∨ j = 2 ∨ j = 3 by omega) with rfl | rfl | rfl | rfl <;> rfl⟩
theorem lX3_19 : q_lk RX3 YX4_init 19 0 true := ⟨q_in 243 (by decide +kernel) rfl, q_in 84 (by decide +kernel) rfl, by decide +kernel, fun h => absurd h (by decide), fun _ => q_inN 241 (by decide +kernel) rfl⟩
theorem fX3_20 : q_fg RX3 20 3 1 := ⟨RX3, TX3, 8, rfl, wX3, by decide, q_in 266 (by decide +kernel) rfl⟩
theorem pX3_20 : q_fd RX3 20 3 1 (.object "DiverBottle$Seen") true := ⟨RX3, TX3, 8, tyX3, rfl, wX3, tyX3_ok, nmX3, by decide, by decide +kernel, rfl, fun _ => rfl, q_in 266 (by decide +kernel) rfl⟩
theorem lX3_24 : q_lk RX3 YX0_init 24 0 true := ⟨q_in 142 (by decide +kernel) rfl, q_in 82 (by decide +kernel) rfl, by decide +kernel, fun h => absurd h (by decide), fun _ => q_inN 263 (by decide +kernel) rfl⟩
theorem lX3_25 : q_lk RX3 YX3_copyDivers 25 2 false := ⟨q_in 541 (by decide +kernel) rfl, q_in 83 (by decide +kernel) rfl, by decide +kernel, fun _ => q_in 538 (by decide +kernel) rfl, fun h => absurd h (by decide)⟩
theorem pX3_29 : q_fd RX3 29 4 3 (.int) false := ⟨RX4, TX4, 4, tyX4, rfl, wX4, tyX4_ok, nmX4, by decide, by decide +kernel, rfl, fun h => absurd h (by decide), q_in 252 (by decide +kernel) rfl⟩
theorem fX3_33 : q_fg RX3 33 3 3 := ⟨RX3, TX3, 8, rfl, wX3, by decide, q_in 270 (by decide +kernel) rfl⟩
theorem pX3_33 : q_fd RX3 33 3 3 (.int) false := ⟨RX3, TX3, 8, tyX3, rfl, wX3, tyX3_ok, nmX3, by decide, by decide +kernel, rfl, fun h => absurd h (by decide), q_in 270 (by decide +kernel) rfl⟩
theorem fX3_36 : q_fg RX3 36 6 0 := ⟨RX6, TX6, 2, rfl, wX6, by decide, q_in 125 (by decide +kernel) rfl⟩
theorem fX3_42 : q_fg RX3 42 3 4 := ⟨RX3, TX3, 8, rfl, wX3, by decide, q_in 273 (by decide +kernel) rfl⟩
theorem pX3_42 : q_fd RX3 42 3 4 (.int) false := ⟨RX3, TX3, 8, tyX3, rfl, wX3, tyX3_ok, nmX3, by decide, by decide +kernel, rfl, fun h => absurd h (by decide), q_in 273 (by decide +kernel) rfl⟩
theorem fX3_45 : q_fg RX3 45 3 5 := ⟨RX3, TX3, 8, rfl, wX3, by decide, q_in 274 (by decide +kernel) rfl⟩
theorem pX3_45 : q_fd RX3 45 3 5 (.int) false := ⟨RX3, TX3, 8, tyX3, rfl, wX3, tyX3_ok, nmX3, by decide, by decide +kernel, rfl, fun h => absurd h (by decide), q_in 274 (by decide +kernel) rfl⟩
theorem fX3_48 : q_fg RX3 48 3 6 := ⟨RX3, TX3, 8, rfl, wX3, by decide, q_in 276 (by decide +kernel) rfl⟩
theorem pX3_48 : q_fd RX3 48 3 6 (.int) false := ⟨RX3, TX3, 8, tyX3, rfl, wX3, tyX3_ok, nmX3, by decide, by decide +kernel, rfl, fun h => absurd h (by decide), q_in 276 (by decide +kernel) rfl⟩
theorem fX3_51 : q_fg RX3 51 3 7 := ⟨RX3, TX3, 8, rfl, wX3, by decide, q_in 278 (by decide +kernel) rfl⟩
theorem pX3_51 : q_fd RX3 51 3 7 (.boolean) false := ⟨RX3, TX3, 8, tyX3, rfl, wX3, tyX3_ok, nmX3, by decide, by decide +kernel, rfl, fun h => absurd h (by decide), q_in 278 (by decide +kernel) rfl⟩
theorem fX3_55 : q_fg RX3 55 3 2 := ⟨RX3, TX3, 8, rfl, wX3, by decide, q_in 268 (by decide +kernel) rfl⟩
theorem pX3_55 : q_fd RX3 55 3 2 (.int) false := ⟨RX3, TX3, 8, tyX3, rfl, wX3, tyX3_ok, nmX3, by decide, by decide +kernel, rfl, fun h => absurd h (by decide), q_in 268 (by decide +kernel) rfl⟩
theorem lX3_58 : q_lk RX3 YX4_copyFrom 58 1 false := ⟨q_in 874 (by decide +kernel) rfl, q_in 84 (by decide +kernel) rfl, by decide +kernel, fun _ => q_in 871 (by decide +kernel) rfl, fun h => absurd h (by decide)⟩
theorem lX3_62 : q_lk RX3 YJ9_min_7cf53 62 2 false := ⟨q_in 544 (by decide +kernel) rfl, q_in 92 (by decide +kernel) rfl, by decide +kernel, fun _ => q_in 542 (by decide +kernel) rfl, fun h => absurd h (by decide)⟩
theorem lX3_68 : q_lk RX3 YX0_copyFrom 68 1 false := ⟨q_in 548 (by decide +kernel) rfl, q_in 82 (by decide +kernel) rfl, by decide +kernel, fun _ => q_in 545 (by decide +kernel) rfl, fun h => absurd h (by decide)⟩
theorem oX4_3 : Cond.methodLink RX4 3 Lib.objectInit ∈ q_T := q_in 244 (by decide +kernel) rfl
theorem fX4_9 : q_fg RX4 9 4 0 := ⟨RX4, TX4, 4, rfl, wX4, by decide, q_in 245 (by decide +kernel) rfl⟩
theorem pX4_9 : q_fd RX4 9 4 0 (.array .int) true := ⟨RX4, TX4, 4, tyX4, rfl, wX4, tyX4_ok, nmX4, by decide, by decide +kernel, rfl, fun _ => rfl, q_in 245 (by decide +kernel) rfl⟩
theorem fX4_15 : q_fg RX4 15 4 1 := ⟨RX4, TX4, 4, rfl, wX4, by decide, q_in 247 (by decide +kernel) rfl⟩
theorem pX4_15 : q_fd RX4 15 4 1 (.array .int) true := ⟨RX4, TX4, 4, tyX4, rfl, wX4, tyX4_ok, nmX4, by decide, by decide +kernel, rfl, fun _ => rfl, q_in 247 (by decide +kernel) rfl⟩
theorem fX4_18 : q_fg RX4 18 4 2 := ⟨RX4, TX4, 4, rfl, wX4, by decide, q_in 249 (by decide +kernel) rfl⟩
theorem pX4_18 : q_fd RX4 18 4 2 (.array .boolean) true := ⟨RX4, TX4, 4, tyX4, rfl, wX4, tyX4_ok, nmX4, by decide, by decide +kernel, rfl, fun _ => rfl, q_in 249 (by decide +kernel) rfl⟩
theorem fX4_22 : q_fg RX4 22 4 3 := ⟨RX4, TX4, 4, rfl, wX4, by decide, q_in 251 (by decide +kernel) rfl⟩
theorem pX4_22 : q_fd RX4 22 4 3 (.int) false := ⟨RX4, TX4, 4, tyX4, rfl, wX4, tyX4_ok, nmX4, by decide, by decide +kernel, rfl, fun h => absurd h (by decide), q_in 251 (by decide +kernel) rfl⟩
theorem lX4_26 : q_lk RX4 YX4_add 26 3 false := ⟨q_in 846 (by decide +kernel) rfl, q_in 84 (by decide +kernel) rfl, by decide +kernel, fun _ => q_in 875 (by decide +kernel) rfl, fun h => absurd h (by decide)⟩
theorem oX5_3 : Cond.methodLink RX5 3 Lib.objectInit ∈ q_T := q_in 304 (by decide +kernel) rfl
theorem fX5_9 : q_fg RX5 9 5 0 := ⟨RX5, TX5, 3, rfl, wX5, by decide, q_in 305 (by decide +kernel) rfl⟩
theorem pX5_9 : q_fd RX5 9 5 0 (.array .int) true := ⟨RX5, TX5, 3, tyX5, rfl, wX5, tyX5_ok, nmX5, by decide, by decide +kernel, rfl, fun _ => rfl, q_in 305 (by decide +kernel) rfl⟩
theorem fX5_15 : q_fg RX5 15 5 1 := ⟨RX5, TX5, 3, rfl, wX5, by decide, q_in 307 (by decide +kernel) rfl⟩
theorem pX5_15 : q_fd RX5 15 5 1 (.int) false := ⟨RX5, TX5, 3, tyX5, rfl, wX5, tyX5_ok, nmX5, by decide, by decide +kernel, rfl, fun h => absurd h (by decide), q_in 307 (by decide +kernel) rfl⟩
theorem lX5_19 : q_lk RX5 YJ9_min_7cf53 19 2 false := ⟨q_in 544 (by decide +kernel) rfl, q_in 92 (by decide +kernel) rfl, by decide +kernel, fun _ => q_in 894 (by decide +kernel) rfl, fun h => absurd h (by decide)⟩
theorem fX5_25 : q_fg RX5 25 5 2 := ⟨RX5, TX5, 3, rfl, wX5, by decide, q_in 309 (by decide +kernel) rfl⟩
theorem pX5_25 : q_fd RX5 25 5 2 (.int) false := ⟨RX5, TX5, 3, tyX5, rfl, wX5, tyX5_ok, nmX5, by decide, by decide +kernel, rfl, fun h => absurd h (by decide), q_in 309 (by decide +kernel) rfl⟩
theorem lX5_28 : q_lk RX5 YX7_within 28 3 true := ⟨q_in 399 (by decide +kernel) rfl, q_in 79 (by decide +kernel) rfl, by decide +kernel, fun h => absurd h (by decide), fun _ => q_inN 903 (by decide +kernel) rfl⟩
theorem lX5_32 : q_lk RX5 YX5_faultAt 32 1 false := ⟨q_in 902 (by decide +kernel) rfl, q_in 85 (by decide +kernel) rfl, by decide +kernel, fun _ => q_in 908 (by decide +kernel) rfl, fun h => absurd h (by decide)⟩
theorem oX6_3 : Cond.methodLink RX6 3 Lib.objectInit ∈ q_T := q_in 112 (by decide +kernel) rfl
theorem fX6_9 : q_fg RX6 9 6 0 := ⟨RX6, TX6, 2, rfl, wX6, by decide, q_in 123 (by decide +kernel) rfl⟩
theorem pX6_9 : q_fd RX6 9 6 0 (.array .int) true := ⟨RX6, TX6, 2, tyX6, rfl, wX6, tyX6_ok, nmX6, by decide, by decide +kernel, rfl, fun _ => rfl, q_in 123 (by decide +kernel) rfl⟩
theorem fX6_15 : q_fg RX6 15 6 1 := ⟨RX6, TX6, 2, rfl, wX6, by decide, q_in 127 (by decide +kernel) rfl⟩
theorem pX6_15 : q_fd RX6 15 6 1 (.array .int) true := ⟨RX6, TX6, 2, tyX6, rfl, wX6, tyX6_ok, nmX6, by decide, by decide +kernel, rfl, fun _ => rfl, q_in 127 (by decide +kernel) rfl⟩
theorem lX6_18 : q_lk RX6 YX6_begin 18 0 false := ⟨q_in 116 (by decide +kernel) rfl, q_in 81 (by decide +kernel) rfl, by decide +kernel, fun _ => q_in 113 (by decide +kernel) rfl, fun h => absurd h (by decide)⟩
theorem lX6_21 : q_lk RX6 YX6_fillWarmths 21 0 false := ⟨q_in 122 (by decide +kernel) rfl, q_in 81 (by decide +kernel) rfl, by decide +kernel, fun _ => q_in 119 (by decide +kernel) rfl, fun h => absurd h (by decide)⟩
theorem gX6_24 : Cond.fieldLink RX6 24 "DiverBottle" (q_nm 3) "[I" ∈ q_T ∨ Cond.fieldLinkNest RX6 24 "DiverBottle" (q_nm 3) "[I" "DiverBottle" ∈ q_N := Or.inr (q_inN 117 (by decide +kernel) rfl)
theorem lX6_27 : q_lk RX6 YX6_pressAt 27 2 false := ⟨q_in 587 (by decide +kernel) rfl, q_in 81 (by decide +kernel) rfl, by decide +kernel, fun _ => q_in 584 (by decide +kernel) rfl, fun h => absurd h (by decide)⟩
theorem lX6_31 : q_lk RX6 YX7_divideCut 31 2 true := ⟨q_in 575 (by decide +kernel) rfl, q_in 79 (by decide +kernel) rfl, by decide +kernel, fun h => absurd h (by decide), fun _ => q_inN 588 (by decide +kernel) rfl⟩
theorem lX6_34 : q_lk RX6 YX6_lighterAt 34 1 false := ⟨q_in 592 (by decide +kernel) rfl, q_in 81 (by decide +kernel) rfl, by decide +kernel, fun _ => q_in 589 (by decide +kernel) rfl, fun h => absurd h (by decide)⟩
theorem lX6_38 : q_lk RX6 YX7_divideUp 38 2 true := ⟨q_in 737 (by decide +kernel) rfl, q_in 79 (by decide +kernel) rfl, by decide +kernel, fun h => absurd h (by decide), fun _ => q_inN 735 (by decide +kernel) rfl⟩
theorem nL_7 : q_nf "DiverBottleLaw" 7 7 11 [some none, some none, some none, some none, some none, some none, some none, some none, some none, none, none] := ⟨RX7, TX7, tyX7, rfl, wX7, tyX7_ok, q_in 93 (by decide +kernel) rfl, q_in 94 (by decide +kernel) rfl, q_in 79 (by decide +kernel) rfl, fun E j hj => by rcases (show j = 0 ∨ j = 1 ∨ j = 2 ∨ j = 3 ∨ j = 4 ∨ j = 5 ∨ j = 6 ∨ j = 7 ∨ j = 8 ∨ j = 9 ∨ j = 10 by omega) with rfl | rfl | rfl | rfl | rfl | rfl | rfl | rfl | rfl | rfl | rfl <;> rfl⟩
theorem lL_9 : q_lk "DiverBottleLaw" YX7_init 9 0 false := ⟨q_in 97 (by decide +kernel) rfl, q_in 79 (by decide +kernel) rfl, by decide +kernel, fun _ => q_in 95 (by decide +kernel) rfl, fun h => absurd h (by decide)⟩
theorem nL_10 : q_nf "DiverBottleLaw" 10 8 31 [some none, some none, some none, some none, some none, some none, some none, none, none, some none, none, none, none, none, none, none, none, none, none, none, none, none, some none, some none, none, none, none, some none, some none, some none, none] := ⟨RX8, TX8, tyX8, rfl, wX8, tyX8_ok, q_in 929 (by decide +kernel) rfl, q_in 930 (by decide +kernel) rfl, q_in 87 (by decide +kernel) rfl, fun E j hj => by rcases (show j = 0 ∨ j = 1 ∨ j = 2 ∨ j = 3 ∨ j = 4 ∨ j = 5 ∨ j = 6 ∨ j = 7 ∨ j = 8 ∨ j = 9 ∨ j = 10 ∨ j = 11 ∨ j = 12 ∨ j = 13 ∨ j = 14 ∨ j = 15 ∨ j = 16 ∨ j = 17 ∨ j = 18 ∨ j = 19 ∨ j = 20 ∨ j = 21 ∨ j = 22 ∨ j = 23 ∨ j = 24 ∨ j = 25 ∨ j = 26 ∨ j = 27 ∨ j = 28 ∨ j = 29 ∨ j = 30 by omega) with rfl | rfl | rfl | rfl | rfl | rfl | rfl | rfl | rfl | rfl | rfl | rfl | rfl | rfl | rfl | rfl | rfl | rfl | rfl | rfl | rfl | rfl | rfl | rfl | rfl | rfl | rfl | rfl | rfl | rfl | rfl <;> rfl⟩
theorem lL_12 : q_lk "DiverBottleLaw" YX8_init 12 0 false := ⟨q_in 933 (by decide +kernel) rfl, q_in 87 (by decide +kernel) rfl, by decide +kernel, fun _ => q_in 931 (by decide +kernel) rfl, fun h => absurd h (by decide)⟩
theorem kL_13 : Cond.constantLong "DiverBottleLaw" 13 (4294967295 : Int64) ∈ q_T := q_in 1398 (by decide +kernel) rfl
theorem lL_15 : q_lk "DiverBottleLaw" YX7_feed 15 1 false := ⟨q_in 388 (by decide +kernel) rfl, q_in 79 (by decide +kernel) rfl, by decide +kernel, fun _ => q_in 385 (by decide +kernel) rfl, fun h => absurd h (by decide)⟩
theorem lL_19 : q_lk "DiverBottleLaw" YX8_feed 19 1 false := ⟨q_in 1043 (by decide +kernel) rfl, q_in 87 (by decide +kernel) rfl, by decide +kernel, fun _ => q_in 1040 (by decide +kernel) rfl, fun h => absurd h (by decide)⟩
theorem lL_20 : q_lk "DiverBottleLaw" YX7_end 20 1 false := ⟨q_in 396 (by decide +kernel) rfl, q_in 79 (by decide +kernel) rfl, by decide +kernel, fun _ => q_in 393 (by decide +kernel) rfl, fun h => absurd h (by decide)⟩
theorem lL_24 : q_lk "DiverBottleLaw" YX8_end 24 1 false := ⟨q_in 1048 (by decide +kernel) rfl, q_in 87 (by decide +kernel) rfl, by decide +kernel, fun _ => q_in 1045 (by decide +kernel) rfl, fun h => absurd h (by decide)⟩
theorem lL_25 : q_lk "DiverBottleLaw" YX7_text 25 0 false := ⟨q_in 403 (by decide +kernel) rfl, q_in 79 (by decide +kernel) rfl, by decide +kernel, fun _ => q_in 400 (by decide +kernel) rfl, fun h => absurd h (by decide)⟩
theorem lL_29 : q_lk "DiverBottleLaw" YX8_text 29 0 false := ⟨q_in 1055 (by decide +kernel) rfl, q_in 87 (by decide +kernel) rfl, by decide +kernel, fun _ => q_in 1052 (by decide +kernel) rfl, fun h => absurd h (by decide)⟩
theorem lL_30 : q_lk "DiverBottleLaw" YX7_fault 30 0 false := ⟨q_in 552 (by decide +kernel) rfl, q_in 79 (by decide +kernel) rfl, by decide +kernel, fun _ => q_in 549 (by decide +kernel) rfl, fun h => absurd h (by decide)⟩
theorem lL_33 : q_lk "DiverBottleLaw" YX8_fault 33 0 false := ⟨q_in 1111 (by decide +kernel) rfl, q_in 87 (by decide +kernel) rfl, by decide +kernel, fun _ => q_in 1108 (by decide +kernel) rfl, fun h => absurd h (by decide)⟩
theorem lL_34 : q_lk "DiverBottleLaw" YX7_rule 34 1 false := ⟨q_in 556 (by decide +kernel) rfl, q_in 79 (by decide +kernel) rfl, by decide +kernel, fun _ => q_in 553 (by decide +kernel) rfl, fun h => absurd h (by decide)⟩
theorem lL_37 : q_lk "DiverBottleLaw" YX8_rule 37 1 false := ⟨q_in 1115 (by decide +kernel) rfl, q_in 87 (by decide +kernel) rfl, by decide +kernel, fun _ => q_in 1112 (by decide +kernel) rfl, fun h => absurd h (by decide)⟩
theorem lL_38 : q_lk "DiverBottleLaw" YX7_diver 38 2 false := ⟨q_in 560 (by decide +kernel) rfl, q_in 79 (by decide +kernel) rfl, by decide +kernel, fun _ => q_in 557 (by decide +kernel) rfl, fun h => absurd h (by decide)⟩
theorem lL_42 : q_lk "DiverBottleLaw" YX8_diver 42 2 false := ⟨q_in 1122 (by decide +kernel) rfl, q_in 87 (by decide +kernel) rfl, by decide +kernel, fun _ => q_in 1119 (by decide +kernel) rfl, fun h => absurd h (by decide)⟩
theorem lL_43 : q_lk "DiverBottleLaw" YX7_thumb 43 1 false := ⟨q_in 596 (by decide +kernel) rfl, q_in 79 (by decide +kernel) rfl, by decide +kernel, fun _ => q_in 593 (by decide +kernel) rfl, fun h => absurd h (by decide)⟩
theorem lL_46 : q_lk "DiverBottleLaw" YX8_thumb 46 1 false := ⟨q_in 1148 (by decide +kernel) rfl, q_in 87 (by decide +kernel) rfl, by decide +kernel, fun _ => q_in 1145 (by decide +kernel) rfl, fun h => absurd h (by decide)⟩
theorem lL_47 : q_lk "DiverBottleLaw" YX7_warm 47 1 false := ⟨q_in 603 (by decide +kernel) rfl, q_in 79 (by decide +kernel) rfl, by decide +kernel, fun _ => q_in 600 (by decide +kernel) rfl, fun h => absurd h (by decide)⟩
theorem lL_50 : q_lk "DiverBottleLaw" YX8_warm 50 1 false := ⟨q_in 1156 (by decide +kernel) rfl, q_in 87 (by decide +kernel) rfl, by decide +kernel, fun _ => q_in 1153 (by decide +kernel) rfl, fun h => absurd h (by decide)⟩
theorem lL_51 : q_lk "DiverBottleLaw" YX7_go 51 1 false := ⟨q_in 609 (by decide +kernel) rfl, q_in 79 (by decide +kernel) rfl, by decide +kernel, fun _ => q_in 606 (by decide +kernel) rfl, fun h => absurd h (by decide)⟩
theorem lL_54 : q_lk "DiverBottleLaw" YX8_go 54 1 false := ⟨q_in 1162 (by decide +kernel) rfl, q_in 87 (by decide +kernel) rfl, by decide +kernel, fun _ => q_in 1159 (by decide +kernel) rfl, fun h => absurd h (by decide)⟩
theorem lL_55 : q_lk "DiverBottleLaw" YX7_set 55 2 false := ⟨q_in 644 (by decide +kernel) rfl, q_in 79 (by decide +kernel) rfl, by decide +kernel, fun _ => q_in 641 (by decide +kernel) rfl, fun h => absurd h (by decide)⟩
theorem lL_58 : q_lk "DiverBottleLaw" YX8_set 58 2 false := ⟨q_in 1183 (by decide +kernel) rfl, q_in 87 (by decide +kernel) rfl, by decide +kernel, fun _ => q_in 1180 (by decide +kernel) rfl, fun h => absurd h (by decide)⟩
theorem lL_59 : q_lk "DiverBottleLaw" YX7_now 59 1 false := ⟨q_in 652 (by decide +kernel) rfl, q_in 79 (by decide +kernel) rfl, by decide +kernel, fun _ => q_in 649 (by decide +kernel) rfl, fun h => absurd h (by decide)⟩
theorem lL_62 : q_lk "DiverBottleLaw" YX8_now 62 1 false := ⟨q_in 1191 (by decide +kernel) rfl, q_in 87 (by decide +kernel) rfl, by decide +kernel, fun _ => q_in 1188 (by decide +kernel) rfl, fun h => absurd h (by decide)⟩
theorem lL_63 : q_lk "DiverBottleLaw" YX7_drop 63 0 false := ⟨q_in 656 (by decide +kernel) rfl, q_in 79 (by decide +kernel) rfl, by decide +kernel, fun _ => q_in 653 (by decide +kernel) rfl, fun h => absurd h (by decide)⟩
theorem lL_66 : q_lk "DiverBottleLaw" YX8_drop 66 0 false := ⟨q_in 1195 (by decide +kernel) rfl, q_in 87 (by decide +kernel) rfl, by decide +kernel, fun _ => q_in 1192 (by decide +kernel) rfl, fun h => absurd h (by decide)⟩
theorem lL_67 : q_lk "DiverBottleLaw" YX7_press 67 1 false := ⟨q_in 660 (by decide +kernel) rfl, q_in 79 (by decide +kernel) rfl, by decide +kernel, fun _ => q_in 657 (by decide +kernel) rfl, fun h => absurd h (by decide)⟩
theorem lL_70 : q_lk "DiverBottleLaw" YX8_press 70 1 false := ⟨q_in 1199 (by decide +kernel) rfl, q_in 87 (by decide +kernel) rfl, by decide +kernel, fun _ => q_in 1196 (by decide +kernel) rfl, fun h => absurd h (by decide)⟩
theorem lL_71 : q_lk "DiverBottleLaw" YX7_weighs 71 3 false := ⟨q_in 665 (by decide +kernel) rfl, q_in 79 (by decide +kernel) rfl, by decide +kernel, fun _ => q_in 662 (by decide +kernel) rfl, fun h => absurd h (by decide)⟩
theorem lL_75 : q_lk "DiverBottleLaw" YX8_weighs 75 3 false := ⟨q_in 1203 (by decide +kernel) rfl, q_in 87 (by decide +kernel) rfl, by decide +kernel, fun _ => q_in 1200 (by decide +kernel) rfl, fun h => absurd h (by decide)⟩
theorem lL_76 : q_lk "DiverBottleLaw" YX7_turning 76 2 false := ⟨q_in 669 (by decide +kernel) rfl, q_in 79 (by decide +kernel) rfl, by decide +kernel, fun _ => q_in 666 (by decide +kernel) rfl, fun h => absurd h (by decide)⟩
theorem lL_79 : q_lk "DiverBottleLaw" YX8_turning 79 2 false := ⟨q_in 1207 (by decide +kernel) rfl, q_in 87 (by decide +kernel) rfl, by decide +kernel, fun _ => q_in 1204 (by decide +kernel) rfl, fun h => absurd h (by decide)⟩
theorem lL_80 : q_lk "DiverBottleLaw" YX7_holding 80 2 false := ⟨q_in 673 (by decide +kernel) rfl, q_in 79 (by decide +kernel) rfl, by decide +kernel, fun _ => q_in 670 (by decide +kernel) rfl, fun h => absurd h (by decide)⟩
theorem lL_83 : q_lk "DiverBottleLaw" YX8_holding 83 2 false := ⟨q_in 1211 (by decide +kernel) rfl, q_in 87 (by decide +kernel) rfl, by decide +kernel, fun _ => q_in 1208 (by decide +kernel) rfl, fun h => absurd h (by decide)⟩
theorem lL_84 : q_lk "DiverBottleLaw" YX7_back 84 1 false := ⟨q_in 677 (by decide +kernel) rfl, q_in 79 (by decide +kernel) rfl, by decide +kernel, fun _ => q_in 674 (by decide +kernel) rfl, fun h => absurd h (by decide)⟩
theorem lL_87 : q_lk "DiverBottleLaw" YX8_back 87 1 false := ⟨q_in 1215 (by decide +kernel) rfl, q_in 87 (by decide +kernel) rfl, by decide +kernel, fun _ => q_in 1212 (by decide +kernel) rfl, fun h => absurd h (by decide)⟩
theorem lL_88 : q_lk "DiverBottleLaw" YX7_goesAt 88 1 false := ⟨q_in 681 (by decide +kernel) rfl, q_in 79 (by decide +kernel) rfl, by decide +kernel, fun _ => q_in 678 (by decide +kernel) rfl, fun h => absurd h (by decide)⟩
theorem lL_91 : q_lk "DiverBottleLaw" YX8_goesAt 91 1 false := ⟨q_in 1219 (by decide +kernel) rfl, q_in 87 (by decide +kernel) rfl, by decide +kernel, fun _ => q_in 1216 (by decide +kernel) rfl, fun h => absurd h (by decide)⟩
theorem lL_92 : q_lk "DiverBottleLaw" YX7_order 92 1 false := ⟨q_in 691 (by decide +kernel) rfl, q_in 79 (by decide +kernel) rfl, by decide +kernel, fun _ => q_in 688 (by decide +kernel) rfl, fun h => absurd h (by decide)⟩
theorem lL_95 : q_lk "DiverBottleLaw" YX8_order 95 1 false := ⟨q_in 1231 (by decide +kernel) rfl, q_in 87 (by decide +kernel) rfl, by decide +kernel, fun _ => q_in 1228 (by decide +kernel) rfl, fun h => absurd h (by decide)⟩
theorem lL_96 : q_lk "DiverBottleLaw" YX7_apart 96 0 false := ⟨q_in 703 (by decide +kernel) rfl, q_in 79 (by decide +kernel) rfl, by decide +kernel, fun _ => q_in 700 (by decide +kernel) rfl, fun h => absurd h (by decide)⟩
theorem lL_99 : q_lk "DiverBottleLaw" YX8_apart 99 0 false := ⟨q_in 1239 (by decide +kernel) rfl, q_in 87 (by decide +kernel) rfl, by decide +kernel, fun _ => q_in 1236 (by decide +kernel) rfl, fun h => absurd h (by decide)⟩
theorem lL_100 : q_lk "DiverBottleLaw" YX7_lifts 100 1 false := ⟨q_in 710 (by decide +kernel) rfl, q_in 79 (by decide +kernel) rfl, by decide +kernel, fun _ => q_in 707 (by decide +kernel) rfl, fun h => absurd h (by decide)⟩
theorem lL_103 : q_lk "DiverBottleLaw" YX8_lifts 103 1 false := ⟨q_in 1246 (by decide +kernel) rfl, q_in 87 (by decide +kernel) rfl, by decide +kernel, fun _ => q_in 1243 (by decide +kernel) rfl, fun h => absurd h (by decide)⟩
theorem lL_104 : q_lk "DiverBottleLaw" YX7_bubbles 104 3 false := ⟨q_in 715 (by decide +kernel) rfl, q_in 79 (by decide +kernel) rfl, by decide +kernel, fun _ => q_in 712 (by decide +kernel) rfl, fun h => absurd h (by decide)⟩
theorem lL_107 : q_lk "DiverBottleLaw" YX8_bubbles 107 3 false := ⟨q_in 1250 (by decide +kernel) rfl, q_in 87 (by decide +kernel) rfl, by decide +kernel, fun _ => q_in 1247 (by decide +kernel) rfl, fun h => absurd h (by decide)⟩
theorem lL_108 : q_lk "DiverBottleLaw" YX7_atThumb 108 3 false := ⟨q_in 744 (by decide +kernel) rfl, q_in 79 (by decide +kernel) rfl, by decide +kernel, fun _ => q_in 741 (by decide +kernel) rfl, fun h => absurd h (by decide)⟩
theorem lL_111 : q_lk "DiverBottleLaw" YX8_atThumb 111 3 false := ⟨q_in 1278 (by decide +kernel) rfl, q_in 87 (by decide +kernel) rfl, by decide +kernel, fun _ => q_in 1275 (by decide +kernel) rfl, fun h => absurd h (by decide)⟩
theorem lL_112 : q_lk "DiverBottleLaw" YX7_spread 112 3 false := ⟨q_in 756 (by decide +kernel) rfl, q_in 79 (by decide +kernel) rfl, by decide +kernel, fun _ => q_in 753 (by decide +kernel) rfl, fun h => absurd h (by decide)⟩
theorem lL_115 : q_lk "DiverBottleLaw" YX8_spread 115 3 false := ⟨q_in 1282 (by decide +kernel) rfl, q_in 87 (by decide +kernel) rfl, by decide +kernel, fun _ => q_in 1279 (by decide +kernel) rfl, fun h => absurd h (by decide)⟩
theorem lL_116 : q_lk "DiverBottleLaw" YX7_hold 116 7 false := ⟨q_in 776 (by decide +kernel) rfl, q_in 79 (by decide +kernel) rfl, by decide +kernel, fun _ => q_in 773 (by decide +kernel) rfl, fun h => absurd h (by decide)⟩
theorem lL_120 : q_lk "DiverBottleLaw" YX8_hold 120 7 false := ⟨q_in 1294 (by decide +kernel) rfl, q_in 87 (by decide +kernel) rfl, by decide +kernel, fun _ => q_in 1291 (by decide +kernel) rfl, fun h => absurd h (by decide)⟩
theorem lL_121 : q_lk "DiverBottleLaw" YX7_late 121 5 false := ⟨q_in 813 (by decide +kernel) rfl, q_in 79 (by decide +kernel) rfl, by decide +kernel, fun _ => q_in 810 (by decide +kernel) rfl, fun h => absurd h (by decide)⟩
theorem lL_125 : q_lk "DiverBottleLaw" YX8_late 125 5 false := ⟨q_in 1314 (by decide +kernel) rfl, q_in 87 (by decide +kernel) rfl, by decide +kernel, fun _ => q_in 1311 (by decide +kernel) rfl, fun h => absurd h (by decide)⟩
theorem lL_126 : q_lk "DiverBottleLaw" YX7_step 126 6 false := ⟨q_in 817 (by decide +kernel) rfl, q_in 79 (by decide +kernel) rfl, by decide +kernel, fun _ => q_in 814 (by decide +kernel) rfl, fun h => absurd h (by decide)⟩
theorem lL_130 : q_lk "DiverBottleLaw" YX8_step 130 6 false := ⟨q_in 1318 (by decide +kernel) rfl, q_in 87 (by decide +kernel) rfl, by decide +kernel, fun _ => q_in 1315 (by decide +kernel) rfl, fun h => absurd h (by decide)⟩
theorem lL_131 : q_lk "DiverBottleLaw" YX7_hours 131 2 false := ⟨q_in 821 (by decide +kernel) rfl, q_in 79 (by decide +kernel) rfl, by decide +kernel, fun _ => q_in 818 (by decide +kernel) rfl, fun h => absurd h (by decide)⟩
theorem lL_134 : q_lk "DiverBottleLaw" YX8_hours 134 2 false := ⟨q_in 1322 (by decide +kernel) rfl, q_in 87 (by decide +kernel) rfl, by decide +kernel, fun _ => q_in 1319 (by decide +kernel) rfl, fun h => absurd h (by decide)⟩
theorem lL_135 : q_lk "DiverBottleLaw" YX7_trips 135 1 false := ⟨q_in 829 (by decide +kernel) rfl, q_in 79 (by decide +kernel) rfl, by decide +kernel, fun _ => q_in 826 (by decide +kernel) rfl, fun h => absurd h (by decide)⟩
theorem lL_138 : q_lk "DiverBottleLaw" YX8_trips 138 1 false := ⟨q_in 1326 (by decide +kernel) rfl, q_in 87 (by decide +kernel) rfl, by decide +kernel, fun _ => q_in 1323 (by decide +kernel) rfl, fun h => absurd h (by decide)⟩
theorem lL_139 : q_lk "DiverBottleLaw" YX7_bladder 139 4 false := ⟨q_in 833 (by decide +kernel) rfl, q_in 79 (by decide +kernel) rfl, by decide +kernel, fun _ => q_in 830 (by decide +kernel) rfl, fun h => absurd h (by decide)⟩
theorem lL_143 : q_lk "DiverBottleLaw" YX8_bladder 143 4 false := ⟨q_in 1330 (by decide +kernel) rfl, q_in 87 (by decide +kernel) rfl, by decide +kernel, fun _ => q_in 1327 (by decide +kernel) rfl, fun h => absurd h (by decide)⟩
theorem lL_144 : q_lk "DiverBottleLaw" YX7_beats 144 4 false := ⟨q_in 838 (by decide +kernel) rfl, q_in 79 (by decide +kernel) rfl, by decide +kernel, fun _ => q_in 835 (by decide +kernel) rfl, fun h => absurd h (by decide)⟩
theorem lL_147 : q_lk "DiverBottleLaw" YX8_beats 147 4 false := ⟨q_in 1338 (by decide +kernel) rfl, q_in 87 (by decide +kernel) rfl, by decide +kernel, fun _ => q_in 1335 (by decide +kernel) rfl, fun h => absurd h (by decide)⟩
theorem lL_148 : q_lk "DiverBottleLaw" YX7_saw 148 3 false := ⟨q_in 842 (by decide +kernel) rfl, q_in 79 (by decide +kernel) rfl, by decide +kernel, fun _ => q_in 839 (by decide +kernel) rfl, fun h => absurd h (by decide)⟩
theorem lL_152 : q_lk "DiverBottleLaw" YX8_saw 152 3 false := ⟨q_in 1344 (by decide +kernel) rfl, q_in 87 (by decide +kernel) rfl, by decide +kernel, fun _ => q_in 1341 (by decide +kernel) rfl, fun h => absurd h (by decide)⟩
theorem lL_153 : q_lk "DiverBottleLaw" YX7_forget 153 0 false := ⟨q_in 850 (by decide +kernel) rfl, q_in 79 (by decide +kernel) rfl, by decide +kernel, fun _ => q_in 847 (by decide +kernel) rfl, fun h => absurd h (by decide)⟩
theorem lL_156 : q_lk "DiverBottleLaw" YX8_forget 156 0 false := ⟨q_in 1348 (by decide +kernel) rfl, q_in 87 (by decide +kernel) rfl, by decide +kernel, fun _ => q_in 1345 (by decide +kernel) rfl, fun h => absurd h (by decide)⟩
theorem lL_157 : q_lk "DiverBottleLaw" YX7_fits 157 2 false := ⟨q_in 854 (by decide +kernel) rfl, q_in 79 (by decide +kernel) rfl, by decide +kernel, fun _ => q_in 851 (by decide +kernel) rfl, fun h => absurd h (by decide)⟩
theorem lL_160 : q_lk "DiverBottleLaw" YX8_fits 160 2 false := ⟨q_in 1352 (by decide +kernel) rfl, q_in 87 (by decide +kernel) rfl, by decide +kernel, fun _ => q_in 1349 (by decide +kernel) rfl, fun h => absurd h (by decide)⟩
theorem lL_161 : q_lk "DiverBottleLaw" YX7_who 161 0 false := ⟨q_in 858 (by decide +kernel) rfl, q_in 79 (by decide +kernel) rfl, by decide +kernel, fun _ => q_in 855 (by decide +kernel) rfl, fun h => absurd h (by decide)⟩
theorem lL_164 : q_lk "DiverBottleLaw" YX8_who 164 0 false := ⟨q_in 1360 (by decide +kernel) rfl, q_in 87 (by decide +kernel) rfl, by decide +kernel, fun _ => q_in 1357 (by decide +kernel) rfl, fun h => absurd h (by decide)⟩
theorem lL_165 : q_lk "DiverBottleLaw" YX7_keep 165 1 false := ⟨q_in 866 (by decide +kernel) rfl, q_in 79 (by decide +kernel) rfl, by decide +kernel, fun _ => q_in 863 (by decide +kernel) rfl, fun h => absurd h (by decide)⟩
theorem lL_168 : q_lk "DiverBottleLaw" YX8_keep 168 1 false := ⟨q_in 1364 (by decide +kernel) rfl, q_in 87 (by decide +kernel) rfl, by decide +kernel, fun _ => q_in 1361 (by decide +kernel) rfl, fun h => absurd h (by decide)⟩
theorem lL_169 : q_lk "DiverBottleLaw" YX7_restore 169 1 false := ⟨q_in 879 (by decide +kernel) rfl, q_in 79 (by decide +kernel) rfl, by decide +kernel, fun _ => q_in 876 (by decide +kernel) rfl, fun h => absurd h (by decide)⟩
theorem lL_172 : q_lk "DiverBottleLaw" YX8_restore 172 1 false := ⟨q_in 1372 (by decide +kernel) rfl, q_in 87 (by decide +kernel) rfl, by decide +kernel, fun _ => q_in 1369 (by decide +kernel) rfl, fun h => absurd h (by decide)⟩
theorem lL_173 : q_lk "DiverBottleLaw" YX7_sheet 173 3 false := ⟨q_in 883 (by decide +kernel) rfl, q_in 79 (by decide +kernel) rfl, by decide +kernel, fun _ => q_in 880 (by decide +kernel) rfl, fun h => absurd h (by decide)⟩
theorem lL_176 : q_lk "DiverBottleLaw" YX8_sheet 176 3 false := ⟨q_in 1376 (by decide +kernel) rfl, q_in 87 (by decide +kernel) rfl, by decide +kernel, fun _ => q_in 1373 (by decide +kernel) rfl, fun h => absurd h (by decide)⟩
theorem lL_177 : q_lk "DiverBottleLaw" YX7_lay 177 3 false := ⟨q_in 898 (by decide +kernel) rfl, q_in 79 (by decide +kernel) rfl, by decide +kernel, fun _ => q_in 895 (by decide +kernel) rfl, fun h => absurd h (by decide)⟩
theorem lL_180 : q_lk "DiverBottleLaw" YX8_lay 180 3 false := ⟨q_in 1383 (by decide +kernel) rfl, q_in 87 (by decide +kernel) rfl, by decide +kernel, fun _ => q_in 1380 (by decide +kernel) rfl, fun h => absurd h (by decide)⟩
theorem lL_181 : q_lk "DiverBottleLaw" YX7_read 181 4 false := ⟨q_in 912 (by decide +kernel) rfl, q_in 79 (by decide +kernel) rfl, by decide +kernel, fun _ => q_in 909 (by decide +kernel) rfl, fun h => absurd h (by decide)⟩
theorem lL_184 : q_lk "DiverBottleLaw" YX8_read 184 4 false := ⟨q_in 1387 (by decide +kernel) rfl, q_in 87 (by decide +kernel) rfl, by decide +kernel, fun _ => q_in 1384 (by decide +kernel) rfl, fun h => absurd h (by decide)⟩
theorem lL_185 : q_lk "DiverBottleLaw" YX7_torn 185 0 false := ⟨q_in 920 (by decide +kernel) rfl, q_in 79 (by decide +kernel) rfl, by decide +kernel, fun _ => q_in 917 (by decide +kernel) rfl, fun h => absurd h (by decide)⟩
theorem lL_188 : q_lk "DiverBottleLaw" YX8_torn 188 0 false := ⟨q_in 1393 (by decide +kernel) rfl, q_in 87 (by decide +kernel) rfl, by decide +kernel, fun _ => q_in 1390 (by decide +kernel) rfl, fun h => absurd h (by decide)⟩
theorem lL_189 : q_lk "DiverBottleLaw" YX7_count 189 1 false := ⟨q_in 924 (by decide +kernel) rfl, q_in 79 (by decide +kernel) rfl, by decide +kernel, fun _ => q_in 921 (by decide +kernel) rfl, fun h => absurd h (by decide)⟩
theorem lL_192 : q_lk "DiverBottleLaw" YX8_count 192 1 false := ⟨q_in 1397 (by decide +kernel) rfl, q_in 87 (by decide +kernel) rfl, by decide +kernel, fun _ => q_in 1394 (by decide +kernel) rfl, fun h => absurd h (by decide)⟩
theorem oX8_1 : Cond.methodLink RX8 1 Lib.objectInit ∈ q_T := q_in 934 (by decide +kernel) rfl
theorem fX8_7 : q_fg RX8 7 8 0 := ⟨RX8, TX8, 31, rfl, wX8, by decide, q_in 946 (by decide +kernel) rfl⟩
theorem pX8_7 : q_fd RX8 7 8 0 (.array .int) true := ⟨RX8, TX8, 31, tyX8, rfl, wX8, tyX8_ok, nmX8, by decide, by decide +kernel, rfl, fun _ => rfl, q_in 946 (by decide +kernel) rfl⟩
theorem fX8_13 : q_fg RX8 13 8 1 := ⟨RX8, TX8, 31, rfl, wX8, by decide, q_in 947 (by decide +kernel) rfl⟩
theorem pX8_13 : q_fd RX8 13 8 1 (.array .boolean) true := ⟨RX8, TX8, 31, tyX8, rfl, wX8, tyX8_ok, nmX8, by decide, by decide +kernel, rfl, fun _ => rfl, q_in 947 (by decide +kernel) rfl⟩
theorem fX8_17 : q_fg RX8 17 8 2 := ⟨RX8, TX8, 31, rfl, wX8, by decide, q_in 948 (by decide +kernel) rfl⟩
theorem pX8_17 : q_fd RX8 17 8 2 (.array .int) true := ⟨RX8, TX8, 31, tyX8, rfl, wX8, tyX8_ok, nmX8, by decide, by decide +kernel, rfl, fun _ => rfl, q_in 948 (by decide +kernel) rfl⟩
theorem fX8_20 : q_fg RX8 20 8 3 := ⟨RX8, TX8, 31, rfl, wX8, by decide, q_in 949 (by decide +kernel) rfl⟩
theorem pX8_20 : q_fd RX8 20 8 3 (.array .int) true := ⟨RX8, TX8, 31, tyX8, rfl, wX8, tyX8_ok, nmX8, by decide, by decide +kernel, rfl, fun _ => rfl, q_in 949 (by decide +kernel) rfl⟩
theorem fX8_23 : q_fg RX8 23 8 4 := ⟨RX8, TX8, 31, rfl, wX8, by decide, q_in 950 (by decide +kernel) rfl⟩
theorem pX8_23 : q_fd RX8 23 8 4 (.array .int) true := ⟨RX8, TX8, 31, tyX8, rfl, wX8, tyX8_ok, nmX8, by decide, by decide +kernel, rfl, fun _ => rfl, q_in 950 (by decide +kernel) rfl⟩
theorem fX8_26 : q_fg RX8 26 8 5 := ⟨RX8, TX8, 31, rfl, wX8, by decide, q_in 951 (by decide +kernel) rfl⟩
theorem pX8_26 : q_fd RX8 26 8 5 (.array .int) true := ⟨RX8, TX8, 31, tyX8, rfl, wX8, tyX8_ok, nmX8, by decide, by decide +kernel, rfl, fun _ => rfl, q_in 951 (by decide +kernel) rfl⟩
theorem fX8_29 : q_fg RX8 29 8 6 := ⟨RX8, TX8, 31, rfl, wX8, by decide, q_in 952 (by decide +kernel) rfl⟩
theorem pX8_29 : q_fd RX8 29 8 6 (.array .int) true := ⟨RX8, TX8, 31, tyX8, rfl, wX8, tyX8_ok, nmX8, by decide, by decide +kernel, rfl, fun _ => rfl, q_in 952 (by decide +kernel) rfl⟩
theorem fX8_32 : q_fg RX8 32 8 9 := ⟨RX8, TX8, 31, rfl, wX8, by decide, q_in 955 (by decide +kernel) rfl⟩
theorem pX8_32 : q_fd RX8 32 8 9 (.array .int) true := ⟨RX8, TX8, 31, tyX8, rfl, wX8, tyX8_ok, nmX8, by decide, by decide +kernel, rfl, fun _ => rfl, q_in 955 (by decide +kernel) rfl⟩
theorem fX8_35 : q_fg RX8 35 8 22 := ⟨RX8, TX8, 31, rfl, wX8, by decide, q_in 968 (by decide +kernel) rfl⟩
theorem pX8_35 : q_fd RX8 35 8 22 (.array .boolean) true := ⟨RX8, TX8, 31, tyX8, rfl, wX8, tyX8_ok, nmX8, by decide, by decide +kernel, rfl, fun _ => rfl, q_in 968 (by decide +kernel) rfl⟩
theorem fX8_38 : q_fg RX8 38 8 23 := ⟨RX8, TX8, 31, rfl, wX8, by decide, q_in 969 (by decide +kernel) rfl⟩
theorem pX8_38 : q_fd RX8 38 8 23 (.array .int) true := ⟨RX8, TX8, 31, tyX8, rfl, wX8, tyX8_ok, nmX8, by decide, by decide +kernel, rfl, fun _ => rfl, q_in 969 (by decide +kernel) rfl⟩
theorem fX8_41 : q_fg RX8 41 8 27 := ⟨RX8, TX8, 31, rfl, wX8, by decide, q_in 973 (by decide +kernel) rfl⟩
theorem pX8_41 : q_fd RX8 41 8 27 (.array .int) true := ⟨RX8, TX8, 31, tyX8, rfl, wX8, tyX8_ok, nmX8, by decide, by decide +kernel, rfl, fun _ => rfl, q_in 973 (by decide +kernel) rfl⟩
theorem fX8_44 : q_fg RX8 44 8 28 := ⟨RX8, TX8, 31, rfl, wX8, by decide, q_in 974 (by decide +kernel) rfl⟩
theorem pX8_44 : q_fd RX8 44 8 28 (.array .int) true := ⟨RX8, TX8, 31, tyX8, rfl, wX8, tyX8_ok, nmX8, by decide, by decide +kernel, rfl, fun _ => rfl, q_in 974 (by decide +kernel) rfl⟩
theorem fX8_47 : q_fg RX8 47 8 29 := ⟨RX8, TX8, 31, rfl, wX8, by decide, q_in 975 (by decide +kernel) rfl⟩
theorem pX8_47 : q_fd RX8 47 8 29 (.array .int) true := ⟨RX8, TX8, 31, tyX8, rfl, wX8, tyX8_ok, nmX8, by decide, by decide +kernel, rfl, fun _ => rfl, q_in 975 (by decide +kernel) rfl⟩
theorem lX8_50 : q_lk RX8 YX8_firstDraft 50 0 false := ⟨q_in 938 (by decide +kernel) rfl, q_in 87 (by decide +kernel) rfl, by decide +kernel, fun _ => q_in 935 (by decide +kernel) rfl, fun h => absurd h (by decide)⟩
theorem lX8_53 : q_lk RX8 YX8_keepDraft 53 0 false := ⟨q_in 942 (by decide +kernel) rfl, q_in 87 (by decide +kernel) rfl, by decide +kernel, fun _ => q_in 939 (by decide +kernel) rfl, fun h => absurd h (by decide)⟩
theorem fX8_56 : q_fg RX8 56 8 7 := ⟨RX8, TX8, 31, rfl, wX8, by decide, q_in 953 (by decide +kernel) rfl⟩
theorem pX8_56 : q_fd RX8 56 8 7 (.int) false := ⟨RX8, TX8, 31, tyX8, rfl, wX8, tyX8_ok, nmX8, by decide, by decide +kernel, rfl, fun h => absurd h (by decide), q_in 953 (by decide +kernel) rfl⟩
theorem fX8_60 : q_fg RX8 60 8 8 := ⟨RX8, TX8, 31, rfl, wX8, by decide, q_in 954 (by decide +kernel) rfl⟩
theorem pX8_60 : q_fd RX8 60 8 8 (.int) false := ⟨RX8, TX8, 31, tyX8, rfl, wX8, tyX8_ok, nmX8, by decide, by decide +kernel, rfl, fun h => absurd h (by decide), q_in 954 (by decide +kernel) rfl⟩
theorem lX8_63 : q_lk RX8 YX8_flag 63 1 false := ⟨q_in 945 (by decide +kernel) rfl, q_in 87 (by decide +kernel) rfl, by decide +kernel, fun _ => q_in 943 (by decide +kernel) rfl, fun h => absurd h (by decide)⟩
theorem fX8_67 : q_fg RX8 67 8 10 := ⟨RX8, TX8, 31, rfl, wX8, by decide, q_in 956 (by decide +kernel) rfl⟩
theorem pX8_67 : q_fd RX8 67 8 10 (.int) false := ⟨RX8, TX8, 31, tyX8, rfl, wX8, tyX8_ok, nmX8, by decide, by decide +kernel, rfl, fun h => absurd h (by decide), q_in 956 (by decide +kernel) rfl⟩
theorem kX8_70 : Cond.constantLong RX8 70 (255 : Int64) ∈ q_T := q_in 1044 (by decide +kernel) rfl
theorem lX8_72 : q_lk RX8 YX8_in 72 3 false := ⟨q_in 1051 (by decide +kernel) rfl, q_in 87 (by decide +kernel) rfl, by decide +kernel, fun _ => q_in 1049 (by decide +kernel) rfl, fun h => absurd h (by decide)⟩
theorem fX8_76 : q_fg RX8 76 8 15 := ⟨RX8, TX8, 31, rfl, wX8, by decide, q_in 961 (by decide +kernel) rfl⟩
theorem pX8_76 : q_fd RX8 76 8 15 (.int) false := ⟨RX8, TX8, 31, tyX8, rfl, wX8, tyX8_ok, nmX8, by decide, by decide +kernel, rfl, fun h => absurd h (by decide), q_in 961 (by decide +kernel) rfl⟩
theorem fX8_79 : q_fg RX8 79 8 12 := ⟨RX8, TX8, 31, rfl, wX8, by decide, q_in 958 (by decide +kernel) rfl⟩
theorem pX8_79 : q_fd RX8 79 8 12 (.int) false := ⟨RX8, TX8, 31, tyX8, rfl, wX8, tyX8_ok, nmX8, by decide, by decide +kernel, rfl, fun h => absurd h (by decide), q_in 958 (by decide +kernel) rfl⟩
theorem fX8_82 : q_fg RX8 82 8 16 := ⟨RX8, TX8, 31, rfl, wX8, by decide, q_in 962 (by decide +kernel) rfl⟩
theorem pX8_82 : q_fd RX8 82 8 16 (.int) false := ⟨RX8, TX8, 31, tyX8, rfl, wX8, tyX8_ok, nmX8, by decide, by decide +kernel, rfl, fun h => absurd h (by decide), q_in 962 (by decide +kernel) rfl⟩
theorem fX8_85 : q_fg RX8 85 8 11 := ⟨RX8, TX8, 31, rfl, wX8, by decide, q_in 957 (by decide +kernel) rfl⟩
theorem pX8_85 : q_fd RX8 85 8 11 (.int) false := ⟨RX8, TX8, 31, tyX8, rfl, wX8, tyX8_ok, nmX8, by decide, by decide +kernel, rfl, fun h => absurd h (by decide), q_in 957 (by decide +kernel) rfl⟩
theorem lX8_88 : q_lk RX8 YX8_look 88 1 false := ⟨q_in 1063 (by decide +kernel) rfl, q_in 87 (by decide +kernel) rfl, by decide +kernel, fun _ => q_in 1060 (by decide +kernel) rfl, fun h => absurd h (by decide)⟩
theorem lX8_92 : q_lk RX8 YX8_is 92 5 false := ⟨q_in 1083 (by decide +kernel) rfl, q_in 87 (by decide +kernel) rfl, by decide +kernel, fun _ => q_in 1080 (by decide +kernel) rfl, fun h => absurd h (by decide)⟩
theorem fX8_96 : q_fg RX8 96 8 13 := ⟨RX8, TX8, 31, rfl, wX8, by decide, q_in 959 (by decide +kernel) rfl⟩
theorem pX8_96 : q_fd RX8 96 8 13 (.int) false := ⟨RX8, TX8, 31, tyX8, rfl, wX8, tyX8_ok, nmX8, by decide, by decide +kernel, rfl, fun h => absurd h (by decide), q_in 959 (by decide +kernel) rfl⟩
theorem kX8_99 : Cond.constantLong RX8 99 (97 : Int64) ∈ q_T := q_in 1064 (by decide +kernel) rfl
theorem kX8_101 : Cond.constantLong RX8 101 (122 : Int64) ∈ q_T := q_in 1065 (by decide +kernel) rfl
theorem kX8_103 : Cond.constantLong RX8 103 (48 : Int64) ∈ q_T := q_in 1066 (by decide +kernel) rfl
theorem kX8_105 : Cond.constantLong RX8 105 (57 : Int64) ∈ q_T := q_in 1067 (by decide +kernel) rfl
theorem fX8_107 : q_fg RX8 107 8 14 := ⟨RX8, TX8, 31, rfl, wX8, by decide, q_in 960 (by decide +kernel) rfl⟩
theorem pX8_107 : q_fd RX8 107 8 14 (.int) false := ⟨RX8, TX8, 31, tyX8, rfl, wX8, tyX8_ok, nmX8, by decide, by decide +kernel, rfl, fun h => absurd h (by decide), q_in 960 (by decide +kernel) rfl⟩
theorem lX8_110 : q_lk RX8 YX8_needs 110 2 false := ⟨q_in 1071 (by decide +kernel) rfl, q_in 87 (by decide +kernel) rfl, by decide +kernel, fun _ => q_in 1068 (by decide +kernel) rfl, fun h => absurd h (by decide)⟩
theorem lX8_114 : q_lk RX8 YX8_isNumber 114 2 false := ⟨q_in 1095 (by decide +kernel) rfl, q_in 87 (by decide +kernel) rfl, by decide +kernel, fun _ => q_in 1092 (by decide +kernel) rfl, fun h => absurd h (by decide)⟩
theorem lX8_118 : q_lk RX8 YX8_next 118 0 false := ⟨q_in 1059 (by decide +kernel) rfl, q_in 87 (by decide +kernel) rfl, by decide +kernel, fun _ => q_in 1056 (by decide +kernel) rfl, fun h => absurd h (by decide)⟩
theorem lX8_121 : q_lk RX8 YX8_readNumber 121 2 false := ⟨q_in 1091 (by decide +kernel) rfl, q_in 87 (by decide +kernel) rfl, by decide +kernel, fun _ => q_in 1088 (by decide +kernel) rfl, fun h => absurd h (by decide)⟩
theorem lX8_125 : q_lk RX8 YX8_withNow 125 0 false := ⟨q_in 1099 (by decide +kernel) rfl, q_in 87 (by decide +kernel) rfl, by decide +kernel, fun _ => q_in 1096 (by decide +kernel) rfl, fun h => absurd h (by decide)⟩
theorem lX8_129 : q_lk RX8 YX8_nameNow 129 0 false := ⟨q_in 1079 (by decide +kernel) rfl, q_in 87 (by decide +kernel) rfl, by decide +kernel, fun _ => q_in 1076 (by decide +kernel) rfl, fun h => absurd h (by decide)⟩
theorem lX8_132 : q_lk RX8 YX8_readDiver 132 0 false := ⟨q_in 1087 (by decide +kernel) rfl, q_in 87 (by decide +kernel) rfl, by decide +kernel, fun _ => q_in 1084 (by decide +kernel) rfl, fun h => absurd h (by decide)⟩
theorem lX8_135 : q_lk RX8 YX8_readHour 135 0 false := ⟨q_in 1103 (by decide +kernel) rfl, q_in 87 (by decide +kernel) rfl, by decide +kernel, fun _ => q_in 1100 (by decide +kernel) rfl, fun h => absurd h (by decide)⟩
theorem lX8_138 : q_lk RX8 YX8_readRule 138 1 false := ⟨q_in 1107 (by decide +kernel) rfl, q_in 87 (by decide +kernel) rfl, by decide +kernel, fun _ => q_in 1104 (by decide +kernel) rfl, fun h => absurd h (by decide)⟩
theorem lX8_142 : q_lk RX8 YX8_readLine 142 0 false := ⟨q_in 1075 (by decide +kernel) rfl, q_in 87 (by decide +kernel) rfl, by decide +kernel, fun _ => q_in 1072 (by decide +kernel) rfl, fun h => absurd h (by decide)⟩
theorem kX8_145 : Cond.constantLong RX8 145 (6 : Int64) ∈ q_T := q_in 1116 (by decide +kernel) rfl
theorem kX8_147 : Cond.constantLong RX8 147 (10 : Int64) ∈ q_T := q_in 1117 (by decide +kernel) rfl
theorem kX8_149 : Cond.constantLong RX8 149 (33 : Int64) ∈ q_T := q_in 1118 (by decide +kernel) rfl
theorem kX8_151 : Cond.constantLong RX8 151 (500 : Int64) ∈ q_T := q_in 1152 (by decide +kernel) rfl
theorem lX8_153 : q_lk RX8 YX8_of 153 2 false := ⟨q_in 1132 (by decide +kernel) rfl, q_in 87 (by decide +kernel) rfl, by decide +kernel, fun _ => q_in 1129 (by decide +kernel) rfl, fun h => absurd h (by decide)⟩
theorem lX8_156 : q_lk RX8 YX8_heavy 156 1 false := ⟨q_in 1140 (by decide +kernel) rfl, q_in 87 (by decide +kernel) rfl, by decide +kernel, fun _ => q_in 1137 (by decide +kernel) rfl, fun h => absurd h (by decide)⟩
theorem lX8_159 : q_lk RX8 YX8_weight 159 5 false := ⟨q_in 1144 (by decide +kernel) rfl, q_in 87 (by decide +kernel) rfl, by decide +kernel, fun _ => q_in 1141 (by decide +kernel) rfl, fun h => absurd h (by decide)⟩
theorem lX8_163 : q_lk RX8 YX8_isDiver 163 1 false := ⟨q_in 1126 (by decide +kernel) rfl, q_in 87 (by decide +kernel) rfl, by decide +kernel, fun _ => q_in 1123 (by decide +kernel) rfl, fun h => absurd h (by decide)⟩
theorem kX8_167 : Cond.constantLong RX8 167 (9 : Int64) ∈ q_T := q_in 1127 (by decide +kernel) rfl
theorem kX8_169 : Cond.constant RX8 169 (-1000000 : Int32) ∈ q_T := q_in 1128 (by decide +kernel) rfl
theorem lX8_170 : q_lk RX8 YX8_weighsAt 170 3 false := ⟨q_in 1136 (by decide +kernel) rfl, q_in 87 (by decide +kernel) rfl, by decide +kernel, fun _ => q_in 1133 (by decide +kernel) rfl, fun h => absurd h (by decide)⟩
theorem lX8_174 : q_lk RX8 YX8_isThumb 174 1 false := ⟨q_in 1151 (by decide +kernel) rfl, q_in 87 (by decide +kernel) rfl, by decide +kernel, fun _ => q_in 1149 (by decide +kernel) rfl, fun h => absurd h (by decide)⟩
theorem kX8_177 : Cond.constantLong RX8 177 (250 : Int64) ∈ q_T := q_in 1157 (by decide +kernel) rfl
theorem kX8_179 : Cond.constantLong RX8 179 (350 : Int64) ∈ q_T := q_in 1158 (by decide +kernel) rfl
theorem fX8_181 : q_fg RX8 181 8 18 := ⟨RX8, TX8, 31, rfl, wX8, by decide, q_in 964 (by decide +kernel) rfl⟩
theorem pX8_181 : q_fd RX8 181 8 18 (.int) false := ⟨RX8, TX8, 31, tyX8, rfl, wX8, tyX8_ok, nmX8, by decide, by decide +kernel, rfl, fun h => absurd h (by decide), q_in 964 (by decide +kernel) rfl⟩
theorem fX8_184 : q_fg RX8 184 8 17 := ⟨RX8, TX8, 31, rfl, wX8, by decide, q_in 963 (by decide +kernel) rfl⟩
theorem pX8_184 : q_fd RX8 184 8 17 (.int) false := ⟨RX8, TX8, 31, tyX8, rfl, wX8, tyX8_ok, nmX8, by decide, by decide +kernel, rfl, fun h => absurd h (by decide), q_in 963 (by decide +kernel) rfl⟩
theorem lX8_187 : q_lk RX8 YX8_floor 187 0 false := ⟨q_in 1175 (by decide +kernel) rfl, q_in 87 (by decide +kernel) rfl, by decide +kernel, fun _ => q_in 1172 (by decide +kernel) rfl, fun h => absurd h (by decide)⟩
theorem lX8_190 : q_lk RX8 YX8_moves 190 3 false := ⟨q_in 1171 (by decide +kernel) rfl, q_in 87 (by decide +kernel) rfl, by decide +kernel, fun _ => q_in 1168 (by decide +kernel) rfl, fun h => absurd h (by decide)⟩
theorem kX8_194 : Cond.constantLong RX8 194 (999 : Int64) ∈ q_T := q_in 1163 (by decide +kernel) rfl
theorem lX8_196 : q_lk RX8 YX8_tickOf 196 1 false := ⟨q_in 1167 (by decide +kernel) rfl, q_in 87 (by decide +kernel) rfl, by decide +kernel, fun _ => q_in 1164 (by decide +kernel) rfl, fun h => absurd h (by decide)⟩
theorem lX8_199 : q_lk RX8 YX8_those 199 1 false := ⟨q_in 1179 (by decide +kernel) rfl, q_in 87 (by decide +kernel) rfl, by decide +kernel, fun _ => q_in 1176 (by decide +kernel) rfl, fun h => absurd h (by decide)⟩
theorem lX8_202 : q_lk RX8 YX8_isDepth 202 1 false := ⟨q_in 1187 (by decide +kernel) rfl, q_in 87 (by decide +kernel) rfl, by decide +kernel, fun _ => q_in 1184 (by decide +kernel) rfl, fun h => absurd h (by decide)⟩
theorem lX8_205 : q_lk RX8 YX8_goesWith 205 2 false := ⟨q_in 1227 (by decide +kernel) rfl, q_in 87 (by decide +kernel) rfl, by decide +kernel, fun _ => q_in 1224 (by decide +kernel) rfl, fun h => absurd h (by decide)⟩
theorem lX8_208 : q_lk RX8 YX8_goesOf 208 1 false := ⟨q_in 1223 (by decide +kernel) rfl, q_in 87 (by decide +kernel) rfl, by decide +kernel, fun _ => q_in 1220 (by decide +kernel) rfl, fun h => absurd h (by decide)⟩
theorem lX8_211 : q_lk RX8 YX8_rankOf 211 1 false := ⟨q_in 1235 (by decide +kernel) rfl, q_in 87 (by decide +kernel) rfl, by decide +kernel, fun _ => q_in 1232 (by decide +kernel) rfl, fun h => absurd h (by decide)⟩
theorem lX8_214 : q_lk RX8 YX8_size 214 1 false := ⟨q_in 1242 (by decide +kernel) rfl, q_in 87 (by decide +kernel) rfl, by decide +kernel, fun _ => q_in 1240 (by decide +kernel) rfl, fun h => absurd h (by decide)⟩
theorem fX8_217 : q_fg RX8 217 8 19 := ⟨RX8, TX8, 31, rfl, wX8, by decide, q_in 965 (by decide +kernel) rfl⟩
theorem pX8_217 : q_fd RX8 217 8 19 (.int) false := ⟨RX8, TX8, 31, tyX8, rfl, wX8, tyX8_ok, nmX8, by decide, by decide +kernel, rfl, fun h => absurd h (by decide), q_in 965 (by decide +kernel) rfl⟩
theorem fX8_220 : q_fg RX8 220 8 20 := ⟨RX8, TX8, 31, rfl, wX8, by decide, q_in 966 (by decide +kernel) rfl⟩
theorem pX8_220 : q_fd RX8 220 8 20 (.int) false := ⟨RX8, TX8, 31, tyX8, rfl, wX8, tyX8_ok, nmX8, by decide, by decide +kernel, rfl, fun h => absurd h (by decide), q_in 966 (by decide +kernel) rfl⟩
theorem fX8_223 : q_fg RX8 223 8 21 := ⟨RX8, TX8, 31, rfl, wX8, by decide, q_in 967 (by decide +kernel) rfl⟩
theorem pX8_223 : q_fd RX8 223 8 21 (.int) false := ⟨RX8, TX8, 31, tyX8, rfl, wX8, tyX8_ok, nmX8, by decide, by decide +kernel, rfl, fun h => absurd h (by decide), q_in 967 (by decide +kernel) rfl⟩
theorem lX8_226 : q_lk RX8 YX8_isHeavy 226 1 false := ⟨q_in 1253 (by decide +kernel) rfl, q_in 87 (by decide +kernel) rfl, by decide +kernel, fun _ => q_in 1251 (by decide +kernel) rfl, fun h => absurd h (by decide)⟩
theorem kX8_229 : Cond.constantLong RX8 229 (2 : Int64) ∈ q_T := q_in 1254 (by decide +kernel) rfl
theorem lX8_231 : q_lk RX8 YX8_noBubbles 231 0 false := ⟨q_in 1258 (by decide +kernel) rfl, q_in 87 (by decide +kernel) rfl, by decide +kernel, fun _ => q_in 1255 (by decide +kernel) rfl, fun h => absurd h (by decide)⟩
theorem lX8_234 : q_lk RX8 YX8_comesBack 234 2 false := ⟨q_in 1262 (by decide +kernel) rfl, q_in 87 (by decide +kernel) rfl, by decide +kernel, fun _ => q_in 1259 (by decide +kernel) rfl, fun h => absurd h (by decide)⟩
theorem lX8_238 : q_lk RX8 YX8_goesBy 238 3 false := ⟨q_in 1266 (by decide +kernel) rfl, q_in 87 (by decide +kernel) rfl, by decide +kernel, fun _ => q_in 1263 (by decide +kernel) rfl, fun h => absurd h (by decide)⟩
theorem lX8_242 : q_lk RX8 YX8_aBubble 242 1 false := ⟨q_in 1270 (by decide +kernel) rfl, q_in 87 (by decide +kernel) rfl, by decide +kernel, fun _ => q_in 1267 (by decide +kernel) rfl, fun h => absurd h (by decide)⟩
theorem lX8_245 : q_lk RX8 YX8_told 245 1 false := ⟨q_in 1274 (by decide +kernel) rfl, q_in 87 (by decide +kernel) rfl, by decide +kernel, fun _ => q_in 1271 (by decide +kernel) rfl, fun h => absurd h (by decide)⟩
theorem lX8_248 : q_lk RX8 YX8_layThumbs 248 1 false := ⟨q_in 1286 (by decide +kernel) rfl, q_in 87 (by decide +kernel) rfl, by decide +kernel, fun _ => q_in 1283 (by decide +kernel) rfl, fun h => absurd h (by decide)⟩
theorem lX8_251 : q_lk RX8 YX8_takenBy 251 1 false := ⟨q_in 1290 (by decide +kernel) rfl, q_in 87 (by decide +kernel) rfl, by decide +kernel, fun _ => q_in 1287 (by decide +kernel) rfl, fun h => absurd h (by decide)⟩
theorem fX8_254 : q_fg RX8 254 8 24 := ⟨RX8, TX8, 31, rfl, wX8, by decide, q_in 970 (by decide +kernel) rfl⟩
theorem pX8_254 : q_fd RX8 254 8 24 (.int) false := ⟨RX8, TX8, 31, tyX8, rfl, wX8, tyX8_ok, nmX8, by decide, by decide +kernel, rfl, fun h => absurd h (by decide), q_in 970 (by decide +kernel) rfl⟩
theorem fX8_257 : q_fg RX8 257 8 25 := ⟨RX8, TX8, 31, rfl, wX8, by decide, q_in 971 (by decide +kernel) rfl⟩
theorem pX8_257 : q_fd RX8 257 8 25 (.int) false := ⟨RX8, TX8, 31, tyX8, rfl, wX8, tyX8_ok, nmX8, by decide, by decide +kernel, rfl, fun h => absurd h (by decide), q_in 971 (by decide +kernel) rfl⟩
theorem fX8_260 : q_fg RX8 260 8 26 := ⟨RX8, TX8, 31, rfl, wX8, by decide, q_in 972 (by decide +kernel) rfl⟩
theorem pX8_260 : q_fd RX8 260 8 26 (.int) false := ⟨RX8, TX8, 31, tyX8, rfl, wX8, tyX8_ok, nmX8, by decide, by decide +kernel, rfl, fun h => absurd h (by decide), q_in 972 (by decide +kernel) rfl⟩
theorem kX8_263 : Cond.constantLong RX8 263 (50 : Int64) ∈ q_T := q_in 1302 (by decide +kernel) rfl
theorem lX8_265 : q_lk RX8 YX8_isHold 265 4 false := ⟨q_in 1298 (by decide +kernel) rfl, q_in 87 (by decide +kernel) rfl, by decide +kernel, fun _ => q_in 1295 (by decide +kernel) rfl, fun h => absurd h (by decide)⟩
theorem lX8_269 : q_lk RX8 YX8_isLate 269 1 false := ⟨q_in 1301 (by decide +kernel) rfl, q_in 87 (by decide +kernel) rfl, by decide +kernel, fun _ => q_in 1299 (by decide +kernel) rfl, fun h => absurd h (by decide)⟩
theorem lX8_272 : q_lk RX8 YX8_isStep 272 1 false := ⟨q_in 1305 (by decide +kernel) rfl, q_in 87 (by decide +kernel) rfl, by decide +kernel, fun _ => q_in 1303 (by decide +kernel) rfl, fun h => absurd h (by decide)⟩
theorem kX8_275 : Cond.constantLong RX8 275 (3 : Int64) ∈ q_T := q_in 1306 (by decide +kernel) rfl
theorem lX8_277 : q_lk RX8 YX8_holds 277 6 false := ⟨q_in 1310 (by decide +kernel) rfl, q_in 87 (by decide +kernel) rfl, by decide +kernel, fun _ => q_in 1307 (by decide +kernel) rfl, fun h => absurd h (by decide)⟩
theorem lX8_281 : q_lk RX8 YX8_bladderAt 281 2 false := ⟨q_in 1334 (by decide +kernel) rfl, q_in 87 (by decide +kernel) rfl, by decide +kernel, fun _ => q_in 1331 (by decide +kernel) rfl, fun h => absurd h (by decide)⟩
theorem kX8_284 : Cond.constantLong RX8 284 (9999 : Int64) ∈ q_T := q_in 1339 (by decide +kernel) rfl
theorem kX8_286 : Cond.constantLong RX8 286 (99 : Int64) ∈ q_T := q_in 1340 (by decide +kernel) rfl
theorem lX8_288 : q_lk RX8 YX8_canBe 288 2 false := ⟨q_in 1356 (by decide +kernel) rfl, q_in 87 (by decide +kernel) rfl, by decide +kernel, fun _ => q_in 1353 (by decide +kernel) rfl, fun h => absurd h (by decide)⟩
theorem lX8_291 : q_lk RX8 YX8_copies 291 2 false := ⟨q_in 1368 (by decide +kernel) rfl, q_in 87 (by decide +kernel) rfl, by decide +kernel, fun _ => q_in 1365 (by decide +kernel) rfl, fun h => absurd h (by decide)⟩
theorem lX8_294 : q_lk RX8 YX8_isSheet 294 2 false := ⟨q_in 1379 (by decide +kernel) rfl, q_in 87 (by decide +kernel) rfl, by decide +kernel, fun _ => q_in 1377 (by decide +kernel) rfl, fun h => absurd h (by decide)⟩
theorem kX8_297 : Cond.constantLong RX8 297 (12 : Int64) ∈ q_T := q_in 1388 (by decide +kernel) rfl
theorem fX8_299 : q_fg RX8 299 8 30 := ⟨RX8, TX8, 31, rfl, wX8, by decide, q_in 976 (by decide +kernel) rfl⟩
theorem pX8_299 : q_fd RX8 299 8 30 (.int) false := ⟨RX8, TX8, 31, tyX8, rfl, wX8, tyX8_ok, nmX8, by decide, by decide +kernel, rfl, fun h => absurd h (by decide), q_in 976 (by decide +kernel) rfl⟩
theorem lX8_302 : q_lk RX8 YX8_saw 302 3 false := ⟨q_in 1344 (by decide +kernel) rfl, q_in 87 (by decide +kernel) rfl, by decide +kernel, fun _ => q_in 1389 (by decide +kernel) rfl, fun h => absurd h (by decide)⟩
theorem iX0_init : Cond.instanceMethod (q_y YX0_init) ∈ q_T := q_in 141 (by decide +kernel) rfl
theorem vX0_begin : Cond.instanceMethod (q_y YX0_begin) ∈ q_T ∧ Cond.selects (q_y YX0_begin).cls (q_y YX0_begin) (q_y YX0_begin) ∈ q_T := ⟨q_in 489 (by decide +kernel) rfl, q_in 490 (by decide +kernel) rfl⟩
theorem vX0_copyFrom : Cond.instanceMethod (q_y YX0_copyFrom) ∈ q_T ∧ Cond.selects (q_y YX0_copyFrom).cls (q_y YX0_copyFrom) (q_y YX0_copyFrom) ∈ q_T := ⟨q_in 546 (by decide +kernel) rfl, q_in 547 (by decide +kernel) rfl⟩
theorem vX0_depth : Cond.instanceMethod (q_y YX0_depth) ∈ q_T ∧ Cond.selects (q_y YX0_depth).cls (q_y YX0_depth) (q_y YX0_depth) ∈ q_T := ⟨q_in 570 (by decide +kernel) rfl, q_in 571 (by decide +kernel) rfl⟩
theorem vX0_move : Cond.instanceMethod (q_y YX0_move) ∈ q_T ∧ Cond.selects (q_y YX0_move).cls (q_y YX0_move) (q_y YX0_move) ∈ q_T := ⟨q_in 619 (by decide +kernel) rfl, q_in 620 (by decide +kernel) rfl⟩
theorem vX0_stopAt : Cond.instanceMethod (q_y YX0_stopAt) ∈ q_T ∧ Cond.selects (q_y YX0_stopAt).cls (q_y YX0_stopAt) (q_y YX0_stopAt) ∈ q_T := ⟨q_in 624 (by decide +kernel) rfl, q_in 17 (by decide +kernel) rfl⟩
theorem iX1_init : Cond.instanceMethod (q_y YX1_init) ∈ q_T := q_in 323 (by decide +kernel) rfl
theorem vX1_takeUp : Cond.instanceMethod (q_y YX1_takeUp) ∈ q_T ∧ Cond.selects (q_y YX1_takeUp).cls (q_y YX1_takeUp) (q_y YX1_takeUp) ∈ q_T := ⟨q_in 792 (by decide +kernel) rfl, q_in 793 (by decide +kernel) rfl⟩
theorem vX1_turnThumb : Cond.instanceMethod (q_y YX1_turnThumb) ∈ q_T ∧ Cond.selects (q_y YX1_turnThumb).cls (q_y YX1_turnThumb) (q_y YX1_turnThumb) ∈ q_T := ⟨q_in 797 (by decide +kernel) rfl, q_in 798 (by decide +kernel) rfl⟩
theorem vX1_mark : Cond.instanceMethod (q_y YX1_mark) ∈ q_T ∧ Cond.selects (q_y YX1_mark).cls (q_y YX1_mark) (q_y YX1_mark) ∈ q_T := ⟨q_in 806 (by decide +kernel) rfl, q_in 807 (by decide +kernel) rfl⟩
theorem iX2_init : Cond.instanceMethod (q_y YX2_init) ∈ q_T := q_in 104 (by decide +kernel) rfl
theorem vX2_append : Cond.instanceMethod (q_y YX2_append) ∈ q_T ∧ Cond.selects (q_y YX2_append).cls (q_y YX2_append) (q_y YX2_append) ∈ q_T := ⟨q_in 390 (by decide +kernel) rfl, q_in 391 (by decide +kernel) rfl⟩
theorem vX2_takeText : Cond.instanceMethod (q_y YX2_takeText) ∈ q_T ∧ Cond.selects (q_y YX2_takeText).cls (q_y YX2_takeText) (q_y YX2_takeText) ∈ q_T := ⟨q_in 405 (by decide +kernel) rfl, q_in 406 (by decide +kernel) rfl⟩
theorem vX2_begin : Cond.instanceMethod (q_y YX2_begin) ∈ q_T ∧ Cond.selects (q_y YX2_begin).cls (q_y YX2_begin) (q_y YX2_begin) ∈ q_T := ⟨q_in 410 (by decide +kernel) rfl, q_in 0 (by decide +kernel) rfl⟩
theorem vX2_fail : Cond.instanceMethod (q_y YX2_fail) ∈ q_T ∧ Cond.selects (q_y YX2_fail).cls (q_y YX2_fail) (q_y YX2_fail) ∈ q_T := ⟨q_in 423 (by decide +kernel) rfl, q_in 3 (by decide +kernel) rfl⟩
theorem vX2_kindAt : Cond.instanceMethod (q_y YX2_kindAt) ∈ q_T ∧ Cond.selects (q_y YX2_kindAt).cls (q_y YX2_kindAt) (q_y YX2_kindAt) ∈ q_T := ⟨q_in 419 (by decide +kernel) rfl, q_in 2 (by decide +kernel) rfl⟩
theorem vX2_nextToken : Cond.instanceMethod (q_y YX2_nextToken) ∈ q_T ∧ Cond.selects (q_y YX2_nextToken).cls (q_y YX2_nextToken) (q_y YX2_nextToken) ∈ q_T := ⟨q_in 415 (by decide +kernel) rfl, q_in 1 (by decide +kernel) rfl⟩
theorem vX2_isName : Cond.instanceMethod (q_y YX2_isName) ∈ q_T ∧ Cond.selects (q_y YX2_isName).cls (q_y YX2_isName) (q_y YX2_isName) ∈ q_T := ⟨q_in 429 (by decide +kernel) rfl, q_in 4 (by decide +kernel) rfl⟩
theorem vX2_takeNumber : Cond.instanceMethod (q_y YX2_takeNumber) ∈ q_T ∧ Cond.selects (q_y YX2_takeNumber).cls (q_y YX2_takeNumber) (q_y YX2_takeNumber) ∈ q_T := ⟨q_in 485 (by decide +kernel) rfl, q_in 6 (by decide +kernel) rfl⟩
theorem vX2_takeStop : Cond.instanceMethod (q_y YX2_takeStop) ∈ q_T ∧ Cond.selects (q_y YX2_takeStop).cls (q_y YX2_takeStop) (q_y YX2_takeStop) ∈ q_T := ⟨q_in 510 (by decide +kernel) rfl, q_in 9 (by decide +kernel) rfl⟩
theorem vX2_takeRuleLine : Cond.instanceMethod (q_y YX2_takeRuleLine) ∈ q_T ∧ Cond.selects (q_y YX2_takeRuleLine).cls (q_y YX2_takeRuleLine) (q_y YX2_takeRuleLine) ∈ q_T := ⟨q_in 514 (by decide +kernel) rfl, q_in 10 (by decide +kernel) rfl⟩
theorem vX2_ruleNamed : Cond.instanceMethod (q_y YX2_ruleNamed) ∈ q_T ∧ Cond.selects (q_y YX2_ruleNamed).cls (q_y YX2_ruleNamed) (q_y YX2_ruleNamed) ∈ q_T := ⟨q_in 518 (by decide +kernel) rfl, q_in 11 (by decide +kernel) rfl⟩
theorem vX2_takeRule : Cond.instanceMethod (q_y YX2_takeRule) ∈ q_T ∧ Cond.selects (q_y YX2_takeRule).cls (q_y YX2_takeRule) (q_y YX2_takeRule) ∈ q_T := ⟨q_in 528 (by decide +kernel) rfl, q_in 12 (by decide +kernel) rfl⟩
theorem vX2_takeHour : Cond.instanceMethod (q_y YX2_takeHour) ∈ q_T ∧ Cond.selects (q_y YX2_takeHour).cls (q_y YX2_takeHour) (q_y YX2_takeHour) ∈ q_T := ⟨q_in 502 (by decide +kernel) rfl, q_in 8 (by decide +kernel) rfl⟩
theorem vX2_takeDiver : Cond.instanceMethod (q_y YX2_takeDiver) ∈ q_T ∧ Cond.selects (q_y YX2_takeDiver).cls (q_y YX2_takeDiver) (q_y YX2_takeDiver) ∈ q_T := ⟨q_in 481 (by decide +kernel) rfl, q_in 5 (by decide +kernel) rfl⟩
theorem vX2_takeWiths : Cond.instanceMethod (q_y YX2_takeWiths) ∈ q_T ∧ Cond.selects (q_y YX2_takeWiths).cls (q_y YX2_takeWiths) (q_y YX2_takeWiths) ∈ q_T := ⟨q_in 494 (by decide +kernel) rfl, q_in 7 (by decide +kernel) rfl⟩
theorem iX3_init : Cond.instanceMethod (q_y YX3_init) ∈ q_T := q_in 235 (by decide +kernel) rfl
theorem vX3_begin : Cond.instanceMethod (q_y YX3_begin) ∈ q_T ∧ Cond.selects (q_y YX3_begin).cls (q_y YX3_begin) (q_y YX3_begin) ∈ q_T := ⟨q_in 535 (by decide +kernel) rfl, q_in 536 (by decide +kernel) rfl⟩
theorem vX3_copyFrom : Cond.instanceMethod (q_y YX3_copyFrom) ∈ q_T ∧ Cond.selects (q_y YX3_copyFrom).cls (q_y YX3_copyFrom) (q_y YX3_copyFrom) ∈ q_T := ⟨q_in 868 (by decide +kernel) rfl, q_in 869 (by decide +kernel) rfl⟩
theorem vX3_copyDivers : Cond.instanceMethod (q_y YX3_copyDivers) ∈ q_T ∧ Cond.selects (q_y YX3_copyDivers).cls (q_y YX3_copyDivers) (q_y YX3_copyDivers) ∈ q_T := ⟨q_in 540 (by decide +kernel) rfl, q_in 13 (by decide +kernel) rfl⟩
theorem iX4_init : Cond.instanceMethod (q_y YX4_init) ∈ q_T := q_in 242 (by decide +kernel) rfl
theorem vX4_add : Cond.instanceMethod (q_y YX4_add) ∈ q_T ∧ Cond.selects (q_y YX4_add).cls (q_y YX4_add) (q_y YX4_add) ∈ q_T := ⟨q_in 844 (by decide +kernel) rfl, q_in 845 (by decide +kernel) rfl⟩
theorem vX4_copyFrom : Cond.instanceMethod (q_y YX4_copyFrom) ∈ q_T ∧ Cond.selects (q_y YX4_copyFrom).cls (q_y YX4_copyFrom) (q_y YX4_copyFrom) ∈ q_T := ⟨q_in 872 (by decide +kernel) rfl, q_in 873 (by decide +kernel) rfl⟩
theorem iX5_init : Cond.instanceMethod (q_y YX5_init) ∈ q_T := q_in 302 (by decide +kernel) rfl
theorem vX5_renew : Cond.instanceMethod (q_y YX5_renew) ∈ q_T ∧ Cond.selects (q_y YX5_renew).cls (q_y YX5_renew) (q_y YX5_renew) ∈ q_T := ⟨q_in 891 (by decide +kernel) rfl, q_in 892 (by decide +kernel) rfl⟩
theorem vX5_faultAt : Cond.instanceMethod (q_y YX5_faultAt) ∈ q_T ∧ Cond.selects (q_y YX5_faultAt).cls (q_y YX5_faultAt) (q_y YX5_faultAt) ∈ q_T := ⟨q_in 900 (by decide +kernel) rfl, q_in 901 (by decide +kernel) rfl⟩
theorem vX5_faultOfThree : Cond.instanceMethod (q_y YX5_faultOfThree) ∈ q_T ∧ Cond.selects (q_y YX5_faultOfThree).cls (q_y YX5_faultOfThree) (q_y YX5_faultOfThree) ∈ q_T := ⟨q_in 914 (by decide +kernel) rfl, q_in 915 (by decide +kernel) rfl⟩
theorem vX5_put : Cond.instanceMethod (q_y YX5_put) ∈ q_T ∧ Cond.selects (q_y YX5_put).cls (q_y YX5_put) (q_y YX5_put) ∈ q_T := ⟨q_in 905 (by decide +kernel) rfl, q_in 906 (by decide +kernel) rfl⟩
theorem iX6_init : Cond.instanceMethod (q_y YX6_init) ∈ q_T := q_in 110 (by decide +kernel) rfl
theorem vX6_begin : Cond.instanceMethod (q_y YX6_begin) ∈ q_T ∧ Cond.selects (q_y YX6_begin).cls (q_y YX6_begin) (q_y YX6_begin) ∈ q_T := ⟨q_in 114 (by decide +kernel) rfl, q_in 115 (by decide +kernel) rfl⟩
theorem vX6_fillWarmths : Cond.instanceMethod (q_y YX6_fillWarmths) ∈ q_T ∧ Cond.selects (q_y YX6_fillWarmths).cls (q_y YX6_fillWarmths) (q_y YX6_fillWarmths) ∈ q_T := ⟨q_in 120 (by decide +kernel) rfl, q_in 121 (by decide +kernel) rfl⟩
theorem vX6_copyFrom : Cond.instanceMethod (q_y YX6_copyFrom) ∈ q_T ∧ Cond.selects (q_y YX6_copyFrom).cls (q_y YX6_copyFrom) (q_y YX6_copyFrom) ∈ q_T := ⟨q_in 531 (by decide +kernel) rfl, q_in 532 (by decide +kernel) rfl⟩
theorem vX6_floor : Cond.instanceMethod (q_y YX6_floor) ∈ q_T ∧ Cond.selects (q_y YX6_floor).cls (q_y YX6_floor) (q_y YX6_floor) ∈ q_T := ⟨q_in 615 (by decide +kernel) rfl, q_in 616 (by decide +kernel) rfl⟩
theorem vX6_pressAt : Cond.instanceMethod (q_y YX6_pressAt) ∈ q_T ∧ Cond.selects (q_y YX6_pressAt).cls (q_y YX6_pressAt) (q_y YX6_pressAt) ∈ q_T := ⟨q_in 585 (by decide +kernel) rfl, q_in 586 (by decide +kernel) rfl⟩
theorem vX6_lighterAt : Cond.instanceMethod (q_y YX6_lighterAt) ∈ q_T ∧ Cond.selects (q_y YX6_lighterAt).cls (q_y YX6_lighterAt) (q_y YX6_lighterAt) ∈ q_T := ⟨q_in 590 (by decide +kernel) rfl, q_in 591 (by decide +kernel) rfl⟩
theorem vX6_weight : Cond.instanceMethod (q_y YX6_weight) ∈ q_T ∧ Cond.selects (q_y YX6_weight).cls (q_y YX6_weight) (q_y YX6_weight) ∈ q_T := ⟨q_in 581 (by decide +kernel) rfl, q_in 582 (by decide +kernel) rfl⟩
theorem vX6_leastBubble : Cond.instanceMethod (q_y YX6_leastBubble) ∈ q_T ∧ Cond.selects (q_y YX6_leastBubble).cls (q_y YX6_leastBubble) (q_y YX6_leastBubble) ∈ q_T := ⟨q_in 732 (by decide +kernel) rfl, q_in 733 (by decide +kernel) rfl⟩
theorem iX7_init : Cond.instanceMethod (q_y YX7_init) ∈ q_T := q_in 96 (by decide +kernel) rfl
theorem vX7_feed : Cond.instanceMethod (q_y YX7_feed) ∈ q_T ∧ Cond.selects (q_y YX7_feed).cls (q_y YX7_feed) (q_y YX7_feed) ∈ q_T := ⟨q_in 386 (by decide +kernel) rfl, q_in 387 (by decide +kernel) rfl⟩
theorem vX7_end : Cond.instanceMethod (q_y YX7_end) ∈ q_T ∧ Cond.selects (q_y YX7_end).cls (q_y YX7_end) (q_y YX7_end) ∈ q_T := ⟨q_in 394 (by decide +kernel) rfl, q_in 395 (by decide +kernel) rfl⟩
theorem vX7_text : Cond.instanceMethod (q_y YX7_text) ∈ q_T ∧ Cond.selects (q_y YX7_text).cls (q_y YX7_text) (q_y YX7_text) ∈ q_T := ⟨q_in 401 (by decide +kernel) rfl, q_in 402 (by decide +kernel) rfl⟩
theorem vX7_fault : Cond.instanceMethod (q_y YX7_fault) ∈ q_T ∧ Cond.selects (q_y YX7_fault).cls (q_y YX7_fault) (q_y YX7_fault) ∈ q_T := ⟨q_in 550 (by decide +kernel) rfl, q_in 551 (by decide +kernel) rfl⟩
theorem vX7_rule : Cond.instanceMethod (q_y YX7_rule) ∈ q_T ∧ Cond.selects (q_y YX7_rule).cls (q_y YX7_rule) (q_y YX7_rule) ∈ q_T := ⟨q_in 554 (by decide +kernel) rfl, q_in 555 (by decide +kernel) rfl⟩
theorem vX7_diver : Cond.instanceMethod (q_y YX7_diver) ∈ q_T ∧ Cond.selects (q_y YX7_diver).cls (q_y YX7_diver) (q_y YX7_diver) ∈ q_T := ⟨q_in 558 (by decide +kernel) rfl, q_in 559 (by decide +kernel) rfl⟩
theorem vX7_thumb : Cond.instanceMethod (q_y YX7_thumb) ∈ q_T ∧ Cond.selects (q_y YX7_thumb).cls (q_y YX7_thumb) (q_y YX7_thumb) ∈ q_T := ⟨q_in 594 (by decide +kernel) rfl, q_in 595 (by decide +kernel) rfl⟩
theorem vX7_warm : Cond.instanceMethod (q_y YX7_warm) ∈ q_T ∧ Cond.selects (q_y YX7_warm).cls (q_y YX7_warm) (q_y YX7_warm) ∈ q_T := ⟨q_in 601 (by decide +kernel) rfl, q_in 602 (by decide +kernel) rfl⟩
theorem vX7_go : Cond.instanceMethod (q_y YX7_go) ∈ q_T ∧ Cond.selects (q_y YX7_go).cls (q_y YX7_go) (q_y YX7_go) ∈ q_T := ⟨q_in 607 (by decide +kernel) rfl, q_in 608 (by decide +kernel) rfl⟩
theorem vX7_set : Cond.instanceMethod (q_y YX7_set) ∈ q_T ∧ Cond.selects (q_y YX7_set).cls (q_y YX7_set) (q_y YX7_set) ∈ q_T := ⟨q_in 642 (by decide +kernel) rfl, q_in 643 (by decide +kernel) rfl⟩
theorem vX7_now : Cond.instanceMethod (q_y YX7_now) ∈ q_T ∧ Cond.selects (q_y YX7_now).cls (q_y YX7_now) (q_y YX7_now) ∈ q_T := ⟨q_in 650 (by decide +kernel) rfl, q_in 651 (by decide +kernel) rfl⟩
theorem vX7_drop : Cond.instanceMethod (q_y YX7_drop) ∈ q_T ∧ Cond.selects (q_y YX7_drop).cls (q_y YX7_drop) (q_y YX7_drop) ∈ q_T := ⟨q_in 654 (by decide +kernel) rfl, q_in 655 (by decide +kernel) rfl⟩
theorem vX7_press : Cond.instanceMethod (q_y YX7_press) ∈ q_T ∧ Cond.selects (q_y YX7_press).cls (q_y YX7_press) (q_y YX7_press) ∈ q_T := ⟨q_in 658 (by decide +kernel) rfl, q_in 659 (by decide +kernel) rfl⟩
theorem vX7_weighs : Cond.instanceMethod (q_y YX7_weighs) ∈ q_T ∧ Cond.selects (q_y YX7_weighs).cls (q_y YX7_weighs) (q_y YX7_weighs) ∈ q_T := ⟨q_in 663 (by decide +kernel) rfl, q_in 664 (by decide +kernel) rfl⟩
theorem vX7_turning : Cond.instanceMethod (q_y YX7_turning) ∈ q_T ∧ Cond.selects (q_y YX7_turning).cls (q_y YX7_turning) (q_y YX7_turning) ∈ q_T := ⟨q_in 667 (by decide +kernel) rfl, q_in 668 (by decide +kernel) rfl⟩
theorem vX7_holding : Cond.instanceMethod (q_y YX7_holding) ∈ q_T ∧ Cond.selects (q_y YX7_holding).cls (q_y YX7_holding) (q_y YX7_holding) ∈ q_T := ⟨q_in 671 (by decide +kernel) rfl, q_in 672 (by decide +kernel) rfl⟩
theorem vX7_back : Cond.instanceMethod (q_y YX7_back) ∈ q_T ∧ Cond.selects (q_y YX7_back).cls (q_y YX7_back) (q_y YX7_back) ∈ q_T := ⟨q_in 675 (by decide +kernel) rfl, q_in 676 (by decide +kernel) rfl⟩
theorem vX7_goesAt : Cond.instanceMethod (q_y YX7_goesAt) ∈ q_T ∧ Cond.selects (q_y YX7_goesAt).cls (q_y YX7_goesAt) (q_y YX7_goesAt) ∈ q_T := ⟨q_in 679 (by decide +kernel) rfl, q_in 680 (by decide +kernel) rfl⟩
theorem vX7_order : Cond.instanceMethod (q_y YX7_order) ∈ q_T ∧ Cond.selects (q_y YX7_order).cls (q_y YX7_order) (q_y YX7_order) ∈ q_T := ⟨q_in 689 (by decide +kernel) rfl, q_in 690 (by decide +kernel) rfl⟩
theorem vX7_apart : Cond.instanceMethod (q_y YX7_apart) ∈ q_T ∧ Cond.selects (q_y YX7_apart).cls (q_y YX7_apart) (q_y YX7_apart) ∈ q_T := ⟨q_in 701 (by decide +kernel) rfl, q_in 702 (by decide +kernel) rfl⟩
theorem vX7_lifts : Cond.instanceMethod (q_y YX7_lifts) ∈ q_T ∧ Cond.selects (q_y YX7_lifts).cls (q_y YX7_lifts) (q_y YX7_lifts) ∈ q_T := ⟨q_in 708 (by decide +kernel) rfl, q_in 709 (by decide +kernel) rfl⟩
theorem vX7_bubbles : Cond.instanceMethod (q_y YX7_bubbles) ∈ q_T ∧ Cond.selects (q_y YX7_bubbles).cls (q_y YX7_bubbles) (q_y YX7_bubbles) ∈ q_T := ⟨q_in 713 (by decide +kernel) rfl, q_in 714 (by decide +kernel) rfl⟩
theorem vX7_atThumb : Cond.instanceMethod (q_y YX7_atThumb) ∈ q_T ∧ Cond.selects (q_y YX7_atThumb).cls (q_y YX7_atThumb) (q_y YX7_atThumb) ∈ q_T := ⟨q_in 742 (by decide +kernel) rfl, q_in 743 (by decide +kernel) rfl⟩
theorem vX7_spread : Cond.instanceMethod (q_y YX7_spread) ∈ q_T ∧ Cond.selects (q_y YX7_spread).cls (q_y YX7_spread) (q_y YX7_spread) ∈ q_T := ⟨q_in 754 (by decide +kernel) rfl, q_in 755 (by decide +kernel) rfl⟩
theorem vX7_hold : Cond.instanceMethod (q_y YX7_hold) ∈ q_T ∧ Cond.selects (q_y YX7_hold).cls (q_y YX7_hold) (q_y YX7_hold) ∈ q_T := ⟨q_in 774 (by decide +kernel) rfl, q_in 775 (by decide +kernel) rfl⟩
theorem vX7_late : Cond.instanceMethod (q_y YX7_late) ∈ q_T ∧ Cond.selects (q_y YX7_late).cls (q_y YX7_late) (q_y YX7_late) ∈ q_T := ⟨q_in 811 (by decide +kernel) rfl, q_in 812 (by decide +kernel) rfl⟩
theorem vX7_step : Cond.instanceMethod (q_y YX7_step) ∈ q_T ∧ Cond.selects (q_y YX7_step).cls (q_y YX7_step) (q_y YX7_step) ∈ q_T := ⟨q_in 815 (by decide +kernel) rfl, q_in 816 (by decide +kernel) rfl⟩
theorem vX7_hours : Cond.instanceMethod (q_y YX7_hours) ∈ q_T ∧ Cond.selects (q_y YX7_hours).cls (q_y YX7_hours) (q_y YX7_hours) ∈ q_T := ⟨q_in 819 (by decide +kernel) rfl, q_in 820 (by decide +kernel) rfl⟩
theorem vX7_trips : Cond.instanceMethod (q_y YX7_trips) ∈ q_T ∧ Cond.selects (q_y YX7_trips).cls (q_y YX7_trips) (q_y YX7_trips) ∈ q_T := ⟨q_in 827 (by decide +kernel) rfl, q_in 828 (by decide +kernel) rfl⟩
theorem vX7_bladder : Cond.instanceMethod (q_y YX7_bladder) ∈ q_T ∧ Cond.selects (q_y YX7_bladder).cls (q_y YX7_bladder) (q_y YX7_bladder) ∈ q_T := ⟨q_in 831 (by decide +kernel) rfl, q_in 832 (by decide +kernel) rfl⟩
theorem vX7_beats : Cond.instanceMethod (q_y YX7_beats) ∈ q_T ∧ Cond.selects (q_y YX7_beats).cls (q_y YX7_beats) (q_y YX7_beats) ∈ q_T := ⟨q_in 836 (by decide +kernel) rfl, q_in 837 (by decide +kernel) rfl⟩
theorem vX7_saw : Cond.instanceMethod (q_y YX7_saw) ∈ q_T ∧ Cond.selects (q_y YX7_saw).cls (q_y YX7_saw) (q_y YX7_saw) ∈ q_T := ⟨q_in 840 (by decide +kernel) rfl, q_in 841 (by decide +kernel) rfl⟩
theorem vX7_forget : Cond.instanceMethod (q_y YX7_forget) ∈ q_T ∧ Cond.selects (q_y YX7_forget).cls (q_y YX7_forget) (q_y YX7_forget) ∈ q_T := ⟨q_in 848 (by decide +kernel) rfl, q_in 849 (by decide +kernel) rfl⟩
theorem vX7_fits : Cond.instanceMethod (q_y YX7_fits) ∈ q_T ∧ Cond.selects (q_y YX7_fits).cls (q_y YX7_fits) (q_y YX7_fits) ∈ q_T := ⟨q_in 852 (by decide +kernel) rfl, q_in 853 (by decide +kernel) rfl⟩
theorem vX7_who : Cond.instanceMethod (q_y YX7_who) ∈ q_T ∧ Cond.selects (q_y YX7_who).cls (q_y YX7_who) (q_y YX7_who) ∈ q_T := ⟨q_in 856 (by decide +kernel) rfl, q_in 857 (by decide +kernel) rfl⟩
theorem vX7_keep : Cond.instanceMethod (q_y YX7_keep) ∈ q_T ∧ Cond.selects (q_y YX7_keep).cls (q_y YX7_keep) (q_y YX7_keep) ∈ q_T := ⟨q_in 864 (by decide +kernel) rfl, q_in 865 (by decide +kernel) rfl⟩
theorem vX7_restore : Cond.instanceMethod (q_y YX7_restore) ∈ q_T ∧ Cond.selects (q_y YX7_restore).cls (q_y YX7_restore) (q_y YX7_restore) ∈ q_T := ⟨q_in 877 (by decide +kernel) rfl, q_in 878 (by decide +kernel) rfl⟩
theorem vX7_sheet : Cond.instanceMethod (q_y YX7_sheet) ∈ q_T ∧ Cond.selects (q_y YX7_sheet).cls (q_y YX7_sheet) (q_y YX7_sheet) ∈ q_T := ⟨q_in 881 (by decide +kernel) rfl, q_in 882 (by decide +kernel) rfl⟩
theorem vX7_lay : Cond.instanceMethod (q_y YX7_lay) ∈ q_T ∧ Cond.selects (q_y YX7_lay).cls (q_y YX7_lay) (q_y YX7_lay) ∈ q_T := ⟨q_in 896 (by decide +kernel) rfl, q_in 897 (by decide +kernel) rfl⟩
theorem vX7_read : Cond.instanceMethod (q_y YX7_read) ∈ q_T ∧ Cond.selects (q_y YX7_read).cls (q_y YX7_read) (q_y YX7_read) ∈ q_T := ⟨q_in 910 (by decide +kernel) rfl, q_in 911 (by decide +kernel) rfl⟩
theorem vX7_torn : Cond.instanceMethod (q_y YX7_torn) ∈ q_T ∧ Cond.selects (q_y YX7_torn).cls (q_y YX7_torn) (q_y YX7_torn) ∈ q_T := ⟨q_in 918 (by decide +kernel) rfl, q_in 919 (by decide +kernel) rfl⟩
theorem vX7_count : Cond.instanceMethod (q_y YX7_count) ∈ q_T ∧ Cond.selects (q_y YX7_count).cls (q_y YX7_count) (q_y YX7_count) ∈ q_T := ⟨q_in 922 (by decide +kernel) rfl, q_in 923 (by decide +kernel) rfl⟩
theorem sX7_within : Cond.static (q_y YX7_within) ∈ q_T := q_in 398 (by decide +kernel) rfl
theorem sX7_isThumb : Cond.static (q_y YX7_isThumb) ∈ q_T := q_in 598 (by decide +kernel) rfl
theorem sX7_isHeavy : Cond.static (q_y YX7_isHeavy) ∈ q_T := q_in 717 (by decide +kernel) rfl
theorem sX7_isLate : Cond.static (q_y YX7_isLate) ∈ q_T := q_in 782 (by decide +kernel) rfl
theorem sX7_isStep : Cond.static (q_y YX7_isStep) ∈ q_T := q_in 785 (by decide +kernel) rfl
theorem sX7_isSheet : Cond.static (q_y YX7_isSheet) ∈ q_T := q_in 885 (by decide +kernel) rfl
theorem sX7_isLane : Cond.static (q_y YX7_isLane) ∈ q_T := q_in 888 (by decide +kernel) rfl
theorem vX7_isDiver : Cond.instanceMethod (q_y YX7_isDiver) ∈ q_T ∧ Cond.selects (q_y YX7_isDiver).cls (q_y YX7_isDiver) (q_y YX7_isDiver) ∈ q_T := ⟨q_in 563 (by decide +kernel) rfl, q_in 14 (by decide +kernel) rfl⟩
theorem vX7_isDepth : Cond.instanceMethod (q_y YX7_isDepth) ∈ q_T ∧ Cond.selects (q_y YX7_isDepth).cls (q_y YX7_isDepth) (q_y YX7_isDepth) ∈ q_T := ⟨q_in 647 (by decide +kernel) rfl, q_in 21 (by decide +kernel) rfl⟩
theorem vX7_canHold : Cond.instanceMethod (q_y YX7_canHold) ∈ q_T ∧ Cond.selects (q_y YX7_canHold).cls (q_y YX7_canHold) (q_y YX7_canHold) ∈ q_T := ⟨q_in 779 (by decide +kernel) rfl, q_in 34 (by decide +kernel) rfl⟩
theorem sX7_divideUp : Cond.static (q_y YX7_divideUp) ∈ q_T := q_in 736 (by decide +kernel) rfl
theorem sX7_divideCut : Cond.static (q_y YX7_divideCut) ∈ q_T := q_in 574 (by decide +kernel) rfl
theorem sX7_bit : Cond.static (q_y YX7_bit) ∈ q_T := q_in 567 (by decide +kernel) rfl
theorem vX7_weightOf : Cond.instanceMethod (q_y YX7_weightOf) ∈ q_T ∧ Cond.selects (q_y YX7_weightOf).cls (q_y YX7_weightOf) (q_y YX7_weightOf) ∈ q_T := ⟨q_in 578 (by decide +kernel) rfl, q_in 15 (by decide +kernel) rfl⟩
theorem vX7_diversAt : Cond.instanceMethod (q_y YX7_diversAt) ∈ q_T ∧ Cond.selects (q_y YX7_diversAt).cls (q_y YX7_diversAt) (q_y YX7_diversAt) ∈ q_T := ⟨q_in 639 (by decide +kernel) rfl, q_in 20 (by decide +kernel) rfl⟩
theorem vX7_hooks : Cond.instanceMethod (q_y YX7_hooks) ∈ q_T ∧ Cond.selects (q_y YX7_hooks).cls (q_y YX7_hooks) (q_y YX7_hooks) ∈ q_T := ⟨q_in 927 (by decide +kernel) rfl, q_in 38 (by decide +kernel) rfl⟩
theorem vX7_moveDiver : Cond.instanceMethod (q_y YX7_moveDiver) ∈ q_T ∧ Cond.selects (q_y YX7_moveDiver).cls (q_y YX7_moveDiver) (q_y YX7_moveDiver) ∈ q_T := ⟨q_in 612 (by decide +kernel) rfl, q_in 16 (by decide +kernel) rfl⟩
theorem vX7_comeToFloor : Cond.instanceMethod (q_y YX7_comeToFloor) ∈ q_T ∧ Cond.selects (q_y YX7_comeToFloor).cls (q_y YX7_comeToFloor) (q_y YX7_comeToFloor) ∈ q_T := ⟨q_in 628 (by decide +kernel) rfl, q_in 18 (by decide +kernel) rfl⟩
theorem vX7_comeToTop : Cond.instanceMethod (q_y YX7_comeToTop) ∈ q_T ∧ Cond.selects (q_y YX7_comeToTop).cls (q_y YX7_comeToTop) (q_y YX7_comeToTop) ∈ q_T := ⟨q_in 635 (by decide +kernel) rfl, q_in 19 (by decide +kernel) rfl⟩
theorem vX7_thumbOf : Cond.instanceMethod (q_y YX7_thumbOf) ∈ q_T ∧ Cond.selects (q_y YX7_thumbOf).cls (q_y YX7_thumbOf) (q_y YX7_thumbOf) ∈ q_T := ⟨q_in 684 (by decide +kernel) rfl, q_in 22 (by decide +kernel) rfl⟩
theorem vX7_diversAhead : Cond.instanceMethod (q_y YX7_diversAhead) ∈ q_T ∧ Cond.selects (q_y YX7_diversAhead).cls (q_y YX7_diversAhead) (q_y YX7_diversAhead) ∈ q_T := ⟨q_in 694 (by decide +kernel) rfl, q_in 23 (by decide +kernel) rfl⟩
theorem vX7_isAhead : Cond.instanceMethod (q_y YX7_isAhead) ∈ q_T ∧ Cond.selects (q_y YX7_isAhead).cls (q_y YX7_isAhead) (q_y YX7_isAhead) ∈ q_T := ⟨q_in 698 (by decide +kernel) rfl, q_in 24 (by decide +kernel) rfl⟩
theorem vX7_leavesAt : Cond.instanceMethod (q_y YX7_leavesAt) ∈ q_T ∧ Cond.selects (q_y YX7_leavesAt).cls (q_y YX7_leavesAt) (q_y YX7_leavesAt) ∈ q_T := ⟨q_in 824 (by decide +kernel) rfl, q_in 36 (by decide +kernel) rfl⟩
theorem vX7_canBe : Cond.instanceMethod (q_y YX7_canBe) ∈ q_T ∧ Cond.selects (q_y YX7_canBe).cls (q_y YX7_canBe) (q_y YX7_canBe) ∈ q_T := ⟨q_in 861 (by decide +kernel) rfl, q_in 37 (by decide +kernel) rfl⟩
theorem vX7_floatsFrom : Cond.instanceMethod (q_y YX7_floatsFrom) ∈ q_T ∧ Cond.selects (q_y YX7_floatsFrom).cls (q_y YX7_floatsFrom) (q_y YX7_floatsFrom) ∈ q_T := ⟨q_in 729 (by decide +kernel) rfl, q_in 27 (by decide +kernel) rfl⟩
theorem vX7_risesFrom : Cond.instanceMethod (q_y YX7_risesFrom) ∈ q_T ∧ Cond.selects (q_y YX7_risesFrom).cls (q_y YX7_risesFrom) (q_y YX7_risesFrom) ∈ q_T := ⟨q_in 725 (by decide +kernel) rfl, q_in 26 (by decide +kernel) rfl⟩
theorem vX7_comesBackFrom : Cond.instanceMethod (q_y YX7_comesBackFrom) ∈ q_T ∧ Cond.selects (q_y YX7_comesBackFrom).cls (q_y YX7_comesBackFrom) (q_y YX7_comesBackFrom) ∈ q_T := ⟨q_in 721 (by decide +kernel) rfl, q_in 25 (by decide +kernel) rfl⟩
theorem vX7_leastAtThumb : Cond.instanceMethod (q_y YX7_leastAtThumb) ∈ q_T ∧ Cond.selects (q_y YX7_leastAtThumb).cls (q_y YX7_leastAtThumb) (q_y YX7_leastAtThumb) ∈ q_T := ⟨q_in 747 (by decide +kernel) rfl, q_in 28 (by decide +kernel) rfl⟩
theorem vX7_greatestAtThumb : Cond.instanceMethod (q_y YX7_greatestAtThumb) ∈ q_T ∧ Cond.selects (q_y YX7_greatestAtThumb).cls (q_y YX7_greatestAtThumb) (q_y YX7_greatestAtThumb) ∈ q_T := ⟨q_in 751 (by decide +kernel) rfl, q_in 29 (by decide +kernel) rfl⟩
theorem sX7_tellRange : Cond.static (q_y YX7_tellRange) ∈ q_T := q_in 739 (by decide +kernel) rfl
theorem vX7_findGoers : Cond.instanceMethod (q_y YX7_findGoers) ∈ q_T ∧ Cond.selects (q_y YX7_findGoers).cls (q_y YX7_findGoers) (q_y YX7_findGoers) ∈ q_T := ⟨q_in 759 (by decide +kernel) rfl, q_in 30 (by decide +kernel) rfl⟩
theorem vX7_firstGoer : Cond.instanceMethod (q_y YX7_firstGoer) ∈ q_T ∧ Cond.selects (q_y YX7_firstGoer).cls (q_y YX7_firstGoer) (q_y YX7_firstGoer) ∈ q_T := ⟨q_in 767 (by decide +kernel) rfl, q_in 32 (by decide +kernel) rfl⟩
theorem vX7_goersApart : Cond.instanceMethod (q_y YX7_goersApart) ∈ q_T ∧ Cond.selects (q_y YX7_goersApart).cls (q_y YX7_goersApart) (q_y YX7_goersApart) ∈ q_T := ⟨q_in 763 (by decide +kernel) rfl, q_in 31 (by decide +kernel) rfl⟩
theorem vX7_greatestGap : Cond.instanceMethod (q_y YX7_greatestGap) ∈ q_T ∧ Cond.selects (q_y YX7_greatestGap).cls (q_y YX7_greatestGap) (q_y YX7_greatestGap) ∈ q_T := ⟨q_in 771 (by decide +kernel) rfl, q_in 33 (by decide +kernel) rfl⟩
theorem vX7_tryHold : Cond.instanceMethod (q_y YX7_tryHold) ∈ q_T ∧ Cond.selects (q_y YX7_tryHold).cls (q_y YX7_tryHold) (q_y YX7_tryHold) ∈ q_T := ⟨q_in 789 (by decide +kernel) rfl, q_in 35 (by decide +kernel) rfl⟩
theorem iX8_init : Cond.instanceMethod (q_y YX8_init) ∈ q_T := q_in 932 (by decide +kernel) rfl
theorem sX8_in : Cond.static (q_y YX8_in) ∈ q_T := q_in 1050 (by decide +kernel) rfl
theorem sX8_flag : Cond.static (q_y YX8_flag) ∈ q_T := q_in 944 (by decide +kernel) rfl
theorem sX8_size : Cond.static (q_y YX8_size) ∈ q_T := q_in 1241 (by decide +kernel) rfl
theorem vX8_firstDraft : Cond.instanceMethod (q_y YX8_firstDraft) ∈ q_T ∧ Cond.selects (q_y YX8_firstDraft).cls (q_y YX8_firstDraft) (q_y YX8_firstDraft) ∈ q_T := ⟨q_in 937 (by decide +kernel) rfl, q_in 39 (by decide +kernel) rfl⟩
theorem vX8_keepDraft : Cond.instanceMethod (q_y YX8_keepDraft) ∈ q_T ∧ Cond.selects (q_y YX8_keepDraft).cls (q_y YX8_keepDraft) (q_y YX8_keepDraft) ∈ q_T := ⟨q_in 941 (by decide +kernel) rfl, q_in 40 (by decide +kernel) rfl⟩
theorem vX8_feed : Cond.instanceMethod (q_y YX8_feed) ∈ q_T ∧ Cond.selects (q_y YX8_feed).cls (q_y YX8_feed) (q_y YX8_feed) ∈ q_T := ⟨q_in 1041 (by decide +kernel) rfl, q_in 1042 (by decide +kernel) rfl⟩
theorem vX8_end : Cond.instanceMethod (q_y YX8_end) ∈ q_T ∧ Cond.selects (q_y YX8_end).cls (q_y YX8_end) (q_y YX8_end) ∈ q_T := ⟨q_in 1046 (by decide +kernel) rfl, q_in 1047 (by decide +kernel) rfl⟩
theorem vX8_needs : Cond.instanceMethod (q_y YX8_needs) ∈ q_T ∧ Cond.selects (q_y YX8_needs).cls (q_y YX8_needs) (q_y YX8_needs) ∈ q_T := ⟨q_in 1070 (by decide +kernel) rfl, q_in 43 (by decide +kernel) rfl⟩
theorem vX8_look : Cond.instanceMethod (q_y YX8_look) ∈ q_T ∧ Cond.selects (q_y YX8_look).cls (q_y YX8_look) (q_y YX8_look) ∈ q_T := ⟨q_in 1062 (by decide +kernel) rfl, q_in 42 (by decide +kernel) rfl⟩
theorem vX8_is : Cond.instanceMethod (q_y YX8_is) ∈ q_T ∧ Cond.selects (q_y YX8_is).cls (q_y YX8_is) (q_y YX8_is) ∈ q_T := ⟨q_in 1082 (by decide +kernel) rfl, q_in 46 (by decide +kernel) rfl⟩
theorem vX8_withNow : Cond.instanceMethod (q_y YX8_withNow) ∈ q_T ∧ Cond.selects (q_y YX8_withNow).cls (q_y YX8_withNow) (q_y YX8_withNow) ∈ q_T := ⟨q_in 1098 (by decide +kernel) rfl, q_in 50 (by decide +kernel) rfl⟩
theorem vX8_nameNow : Cond.instanceMethod (q_y YX8_nameNow) ∈ q_T ∧ Cond.selects (q_y YX8_nameNow).cls (q_y YX8_nameNow) (q_y YX8_nameNow) ∈ q_T := ⟨q_in 1078 (by decide +kernel) rfl, q_in 45 (by decide +kernel) rfl⟩
theorem vX8_next : Cond.instanceMethod (q_y YX8_next) ∈ q_T ∧ Cond.selects (q_y YX8_next).cls (q_y YX8_next) (q_y YX8_next) ∈ q_T := ⟨q_in 1058 (by decide +kernel) rfl, q_in 41 (by decide +kernel) rfl⟩
theorem vX8_isNumber : Cond.instanceMethod (q_y YX8_isNumber) ∈ q_T ∧ Cond.selects (q_y YX8_isNumber).cls (q_y YX8_isNumber) (q_y YX8_isNumber) ∈ q_T := ⟨q_in 1094 (by decide +kernel) rfl, q_in 49 (by decide +kernel) rfl⟩
theorem vX8_readNumber : Cond.instanceMethod (q_y YX8_readNumber) ∈ q_T ∧ Cond.selects (q_y YX8_readNumber).cls (q_y YX8_readNumber) (q_y YX8_readNumber) ∈ q_T := ⟨q_in 1090 (by decide +kernel) rfl, q_in 48 (by decide +kernel) rfl⟩
theorem vX8_readHour : Cond.instanceMethod (q_y YX8_readHour) ∈ q_T ∧ Cond.selects (q_y YX8_readHour).cls (q_y YX8_readHour) (q_y YX8_readHour) ∈ q_T := ⟨q_in 1102 (by decide +kernel) rfl, q_in 51 (by decide +kernel) rfl⟩
theorem vX8_readDiver : Cond.instanceMethod (q_y YX8_readDiver) ∈ q_T ∧ Cond.selects (q_y YX8_readDiver).cls (q_y YX8_readDiver) (q_y YX8_readDiver) ∈ q_T := ⟨q_in 1086 (by decide +kernel) rfl, q_in 47 (by decide +kernel) rfl⟩
theorem vX8_readRule : Cond.instanceMethod (q_y YX8_readRule) ∈ q_T ∧ Cond.selects (q_y YX8_readRule).cls (q_y YX8_readRule) (q_y YX8_readRule) ∈ q_T := ⟨q_in 1106 (by decide +kernel) rfl, q_in 52 (by decide +kernel) rfl⟩
theorem vX8_readLine : Cond.instanceMethod (q_y YX8_readLine) ∈ q_T ∧ Cond.selects (q_y YX8_readLine).cls (q_y YX8_readLine) (q_y YX8_readLine) ∈ q_T := ⟨q_in 1074 (by decide +kernel) rfl, q_in 44 (by decide +kernel) rfl⟩
theorem vX8_text : Cond.instanceMethod (q_y YX8_text) ∈ q_T ∧ Cond.selects (q_y YX8_text).cls (q_y YX8_text) (q_y YX8_text) ∈ q_T := ⟨q_in 1053 (by decide +kernel) rfl, q_in 1054 (by decide +kernel) rfl⟩
theorem vX8_fault : Cond.instanceMethod (q_y YX8_fault) ∈ q_T ∧ Cond.selects (q_y YX8_fault).cls (q_y YX8_fault) (q_y YX8_fault) ∈ q_T := ⟨q_in 1109 (by decide +kernel) rfl, q_in 1110 (by decide +kernel) rfl⟩
theorem vX8_rule : Cond.instanceMethod (q_y YX8_rule) ∈ q_T ∧ Cond.selects (q_y YX8_rule).cls (q_y YX8_rule) (q_y YX8_rule) ∈ q_T := ⟨q_in 1113 (by decide +kernel) rfl, q_in 1114 (by decide +kernel) rfl⟩
theorem vX8_isDiver : Cond.instanceMethod (q_y YX8_isDiver) ∈ q_T ∧ Cond.selects (q_y YX8_isDiver).cls (q_y YX8_isDiver) (q_y YX8_isDiver) ∈ q_T := ⟨q_in 1125 (by decide +kernel) rfl, q_in 53 (by decide +kernel) rfl⟩
theorem vX8_isDepth : Cond.instanceMethod (q_y YX8_isDepth) ∈ q_T ∧ Cond.selects (q_y YX8_isDepth).cls (q_y YX8_isDepth) (q_y YX8_isDepth) ∈ q_T := ⟨q_in 1186 (by decide +kernel) rfl, q_in 62 (by decide +kernel) rfl⟩
theorem sX8_isThumb : Cond.static (q_y YX8_isThumb) ∈ q_T := q_in 1150 (by decide +kernel) rfl
theorem vX8_of : Cond.instanceMethod (q_y YX8_of) ∈ q_T ∧ Cond.selects (q_y YX8_of).cls (q_y YX8_of) (q_y YX8_of) ∈ q_T := ⟨q_in 1131 (by decide +kernel) rfl, q_in 54 (by decide +kernel) rfl⟩
theorem vX8_weight : Cond.instanceMethod (q_y YX8_weight) ∈ q_T ∧ Cond.selects (q_y YX8_weight).cls (q_y YX8_weight) (q_y YX8_weight) ∈ q_T := ⟨q_in 1143 (by decide +kernel) rfl, q_in 57 (by decide +kernel) rfl⟩
theorem vX8_heavy : Cond.instanceMethod (q_y YX8_heavy) ∈ q_T ∧ Cond.selects (q_y YX8_heavy).cls (q_y YX8_heavy) (q_y YX8_heavy) ∈ q_T := ⟨q_in 1139 (by decide +kernel) rfl, q_in 56 (by decide +kernel) rfl⟩
theorem vX8_weighsAt : Cond.instanceMethod (q_y YX8_weighsAt) ∈ q_T ∧ Cond.selects (q_y YX8_weighsAt).cls (q_y YX8_weighsAt) (q_y YX8_weighsAt) ∈ q_T := ⟨q_in 1135 (by decide +kernel) rfl, q_in 55 (by decide +kernel) rfl⟩
theorem vX8_diver : Cond.instanceMethod (q_y YX8_diver) ∈ q_T ∧ Cond.selects (q_y YX8_diver).cls (q_y YX8_diver) (q_y YX8_diver) ∈ q_T := ⟨q_in 1120 (by decide +kernel) rfl, q_in 1121 (by decide +kernel) rfl⟩
theorem vX8_thumb : Cond.instanceMethod (q_y YX8_thumb) ∈ q_T ∧ Cond.selects (q_y YX8_thumb).cls (q_y YX8_thumb) (q_y YX8_thumb) ∈ q_T := ⟨q_in 1146 (by decide +kernel) rfl, q_in 1147 (by decide +kernel) rfl⟩
theorem vX8_warm : Cond.instanceMethod (q_y YX8_warm) ∈ q_T ∧ Cond.selects (q_y YX8_warm).cls (q_y YX8_warm) (q_y YX8_warm) ∈ q_T := ⟨q_in 1154 (by decide +kernel) rfl, q_in 1155 (by decide +kernel) rfl⟩
theorem vX8_floor : Cond.instanceMethod (q_y YX8_floor) ∈ q_T ∧ Cond.selects (q_y YX8_floor).cls (q_y YX8_floor) (q_y YX8_floor) ∈ q_T := ⟨q_in 1174 (by decide +kernel) rfl, q_in 60 (by decide +kernel) rfl⟩
theorem vX8_moves : Cond.instanceMethod (q_y YX8_moves) ∈ q_T ∧ Cond.selects (q_y YX8_moves).cls (q_y YX8_moves) (q_y YX8_moves) ∈ q_T := ⟨q_in 1170 (by decide +kernel) rfl, q_in 59 (by decide +kernel) rfl⟩
theorem vX8_tickOf : Cond.instanceMethod (q_y YX8_tickOf) ∈ q_T ∧ Cond.selects (q_y YX8_tickOf).cls (q_y YX8_tickOf) (q_y YX8_tickOf) ∈ q_T := ⟨q_in 1166 (by decide +kernel) rfl, q_in 58 (by decide +kernel) rfl⟩
theorem vX8_those : Cond.instanceMethod (q_y YX8_those) ∈ q_T ∧ Cond.selects (q_y YX8_those).cls (q_y YX8_those) (q_y YX8_those) ∈ q_T := ⟨q_in 1178 (by decide +kernel) rfl, q_in 61 (by decide +kernel) rfl⟩
theorem vX8_go : Cond.instanceMethod (q_y YX8_go) ∈ q_T ∧ Cond.selects (q_y YX8_go).cls (q_y YX8_go) (q_y YX8_go) ∈ q_T := ⟨q_in 1160 (by decide +kernel) rfl, q_in 1161 (by decide +kernel) rfl⟩
theorem vX8_set : Cond.instanceMethod (q_y YX8_set) ∈ q_T ∧ Cond.selects (q_y YX8_set).cls (q_y YX8_set) (q_y YX8_set) ∈ q_T := ⟨q_in 1181 (by decide +kernel) rfl, q_in 1182 (by decide +kernel) rfl⟩
theorem vX8_now : Cond.instanceMethod (q_y YX8_now) ∈ q_T ∧ Cond.selects (q_y YX8_now).cls (q_y YX8_now) (q_y YX8_now) ∈ q_T := ⟨q_in 1189 (by decide +kernel) rfl, q_in 1190 (by decide +kernel) rfl⟩
theorem vX8_drop : Cond.instanceMethod (q_y YX8_drop) ∈ q_T ∧ Cond.selects (q_y YX8_drop).cls (q_y YX8_drop) (q_y YX8_drop) ∈ q_T := ⟨q_in 1193 (by decide +kernel) rfl, q_in 1194 (by decide +kernel) rfl⟩
theorem vX8_press : Cond.instanceMethod (q_y YX8_press) ∈ q_T ∧ Cond.selects (q_y YX8_press).cls (q_y YX8_press) (q_y YX8_press) ∈ q_T := ⟨q_in 1197 (by decide +kernel) rfl, q_in 1198 (by decide +kernel) rfl⟩
theorem vX8_weighs : Cond.instanceMethod (q_y YX8_weighs) ∈ q_T ∧ Cond.selects (q_y YX8_weighs).cls (q_y YX8_weighs) (q_y YX8_weighs) ∈ q_T := ⟨q_in 1201 (by decide +kernel) rfl, q_in 1202 (by decide +kernel) rfl⟩
theorem vX8_turning : Cond.instanceMethod (q_y YX8_turning) ∈ q_T ∧ Cond.selects (q_y YX8_turning).cls (q_y YX8_turning) (q_y YX8_turning) ∈ q_T := ⟨q_in 1205 (by decide +kernel) rfl, q_in 1206 (by decide +kernel) rfl⟩
theorem vX8_holding : Cond.instanceMethod (q_y YX8_holding) ∈ q_T ∧ Cond.selects (q_y YX8_holding).cls (q_y YX8_holding) (q_y YX8_holding) ∈ q_T := ⟨q_in 1209 (by decide +kernel) rfl, q_in 1210 (by decide +kernel) rfl⟩
theorem vX8_back : Cond.instanceMethod (q_y YX8_back) ∈ q_T ∧ Cond.selects (q_y YX8_back).cls (q_y YX8_back) (q_y YX8_back) ∈ q_T := ⟨q_in 1213 (by decide +kernel) rfl, q_in 1214 (by decide +kernel) rfl⟩
theorem vX8_goesWith : Cond.instanceMethod (q_y YX8_goesWith) ∈ q_T ∧ Cond.selects (q_y YX8_goesWith).cls (q_y YX8_goesWith) (q_y YX8_goesWith) ∈ q_T := ⟨q_in 1226 (by decide +kernel) rfl, q_in 64 (by decide +kernel) rfl⟩
theorem vX8_goesOf : Cond.instanceMethod (q_y YX8_goesOf) ∈ q_T ∧ Cond.selects (q_y YX8_goesOf).cls (q_y YX8_goesOf) (q_y YX8_goesOf) ∈ q_T := ⟨q_in 1222 (by decide +kernel) rfl, q_in 63 (by decide +kernel) rfl⟩
theorem vX8_goesAt : Cond.instanceMethod (q_y YX8_goesAt) ∈ q_T ∧ Cond.selects (q_y YX8_goesAt).cls (q_y YX8_goesAt) (q_y YX8_goesAt) ∈ q_T := ⟨q_in 1217 (by decide +kernel) rfl, q_in 1218 (by decide +kernel) rfl⟩
theorem vX8_rankOf : Cond.instanceMethod (q_y YX8_rankOf) ∈ q_T ∧ Cond.selects (q_y YX8_rankOf).cls (q_y YX8_rankOf) (q_y YX8_rankOf) ∈ q_T := ⟨q_in 1234 (by decide +kernel) rfl, q_in 65 (by decide +kernel) rfl⟩
theorem vX8_order : Cond.instanceMethod (q_y YX8_order) ∈ q_T ∧ Cond.selects (q_y YX8_order).cls (q_y YX8_order) (q_y YX8_order) ∈ q_T := ⟨q_in 1229 (by decide +kernel) rfl, q_in 1230 (by decide +kernel) rfl⟩
theorem vX8_apart : Cond.instanceMethod (q_y YX8_apart) ∈ q_T ∧ Cond.selects (q_y YX8_apart).cls (q_y YX8_apart) (q_y YX8_apart) ∈ q_T := ⟨q_in 1237 (by decide +kernel) rfl, q_in 1238 (by decide +kernel) rfl⟩
theorem vX8_lifts : Cond.instanceMethod (q_y YX8_lifts) ∈ q_T ∧ Cond.selects (q_y YX8_lifts).cls (q_y YX8_lifts) (q_y YX8_lifts) ∈ q_T := ⟨q_in 1244 (by decide +kernel) rfl, q_in 1245 (by decide +kernel) rfl⟩
theorem vX8_noBubbles : Cond.instanceMethod (q_y YX8_noBubbles) ∈ q_T ∧ Cond.selects (q_y YX8_noBubbles).cls (q_y YX8_noBubbles) (q_y YX8_noBubbles) ∈ q_T := ⟨q_in 1257 (by decide +kernel) rfl, q_in 66 (by decide +kernel) rfl⟩
theorem vX8_aBubble : Cond.instanceMethod (q_y YX8_aBubble) ∈ q_T ∧ Cond.selects (q_y YX8_aBubble).cls (q_y YX8_aBubble) (q_y YX8_aBubble) ∈ q_T := ⟨q_in 1269 (by decide +kernel) rfl, q_in 69 (by decide +kernel) rfl⟩
theorem vX8_told : Cond.instanceMethod (q_y YX8_told) ∈ q_T ∧ Cond.selects (q_y YX8_told).cls (q_y YX8_told) (q_y YX8_told) ∈ q_T := ⟨q_in 1273 (by decide +kernel) rfl, q_in 70 (by decide +kernel) rfl⟩
theorem vX8_comesBack : Cond.instanceMethod (q_y YX8_comesBack) ∈ q_T ∧ Cond.selects (q_y YX8_comesBack).cls (q_y YX8_comesBack) (q_y YX8_comesBack) ∈ q_T := ⟨q_in 1261 (by decide +kernel) rfl, q_in 67 (by decide +kernel) rfl⟩
theorem vX8_goesBy : Cond.instanceMethod (q_y YX8_goesBy) ∈ q_T ∧ Cond.selects (q_y YX8_goesBy).cls (q_y YX8_goesBy) (q_y YX8_goesBy) ∈ q_T := ⟨q_in 1265 (by decide +kernel) rfl, q_in 68 (by decide +kernel) rfl⟩
theorem sX8_isHeavy : Cond.static (q_y YX8_isHeavy) ∈ q_T := q_in 1252 (by decide +kernel) rfl
theorem vX8_bubbles : Cond.instanceMethod (q_y YX8_bubbles) ∈ q_T ∧ Cond.selects (q_y YX8_bubbles).cls (q_y YX8_bubbles) (q_y YX8_bubbles) ∈ q_T := ⟨q_in 1248 (by decide +kernel) rfl, q_in 1249 (by decide +kernel) rfl⟩
theorem vX8_atThumb : Cond.instanceMethod (q_y YX8_atThumb) ∈ q_T ∧ Cond.selects (q_y YX8_atThumb).cls (q_y YX8_atThumb) (q_y YX8_atThumb) ∈ q_T := ⟨q_in 1276 (by decide +kernel) rfl, q_in 1277 (by decide +kernel) rfl⟩
theorem vX8_layThumbs : Cond.instanceMethod (q_y YX8_layThumbs) ∈ q_T ∧ Cond.selects (q_y YX8_layThumbs).cls (q_y YX8_layThumbs) (q_y YX8_layThumbs) ∈ q_T := ⟨q_in 1285 (by decide +kernel) rfl, q_in 71 (by decide +kernel) rfl⟩
theorem vX8_takenBy : Cond.instanceMethod (q_y YX8_takenBy) ∈ q_T ∧ Cond.selects (q_y YX8_takenBy).cls (q_y YX8_takenBy) (q_y YX8_takenBy) ∈ q_T := ⟨q_in 1289 (by decide +kernel) rfl, q_in 72 (by decide +kernel) rfl⟩
theorem vX8_spread : Cond.instanceMethod (q_y YX8_spread) ∈ q_T ∧ Cond.selects (q_y YX8_spread).cls (q_y YX8_spread) (q_y YX8_spread) ∈ q_T := ⟨q_in 1280 (by decide +kernel) rfl, q_in 1281 (by decide +kernel) rfl⟩
theorem vX8_holds : Cond.instanceMethod (q_y YX8_holds) ∈ q_T ∧ Cond.selects (q_y YX8_holds).cls (q_y YX8_holds) (q_y YX8_holds) ∈ q_T := ⟨q_in 1309 (by decide +kernel) rfl, q_in 74 (by decide +kernel) rfl⟩
theorem vX8_isHold : Cond.instanceMethod (q_y YX8_isHold) ∈ q_T ∧ Cond.selects (q_y YX8_isHold).cls (q_y YX8_isHold) (q_y YX8_isHold) ∈ q_T := ⟨q_in 1297 (by decide +kernel) rfl, q_in 73 (by decide +kernel) rfl⟩
theorem sX8_isStep : Cond.static (q_y YX8_isStep) ∈ q_T := q_in 1304 (by decide +kernel) rfl
theorem sX8_isLate : Cond.static (q_y YX8_isLate) ∈ q_T := q_in 1300 (by decide +kernel) rfl
theorem vX8_hold : Cond.instanceMethod (q_y YX8_hold) ∈ q_T ∧ Cond.selects (q_y YX8_hold).cls (q_y YX8_hold) (q_y YX8_hold) ∈ q_T := ⟨q_in 1292 (by decide +kernel) rfl, q_in 1293 (by decide +kernel) rfl⟩
theorem vX8_late : Cond.instanceMethod (q_y YX8_late) ∈ q_T ∧ Cond.selects (q_y YX8_late).cls (q_y YX8_late) (q_y YX8_late) ∈ q_T := ⟨q_in 1312 (by decide +kernel) rfl, q_in 1313 (by decide +kernel) rfl⟩
theorem vX8_step : Cond.instanceMethod (q_y YX8_step) ∈ q_T ∧ Cond.selects (q_y YX8_step).cls (q_y YX8_step) (q_y YX8_step) ∈ q_T := ⟨q_in 1316 (by decide +kernel) rfl, q_in 1317 (by decide +kernel) rfl⟩
theorem vX8_hours : Cond.instanceMethod (q_y YX8_hours) ∈ q_T ∧ Cond.selects (q_y YX8_hours).cls (q_y YX8_hours) (q_y YX8_hours) ∈ q_T := ⟨q_in 1320 (by decide +kernel) rfl, q_in 1321 (by decide +kernel) rfl⟩
theorem vX8_trips : Cond.instanceMethod (q_y YX8_trips) ∈ q_T ∧ Cond.selects (q_y YX8_trips).cls (q_y YX8_trips) (q_y YX8_trips) ∈ q_T := ⟨q_in 1324 (by decide +kernel) rfl, q_in 1325 (by decide +kernel) rfl⟩
theorem vX8_bladderAt : Cond.instanceMethod (q_y YX8_bladderAt) ∈ q_T ∧ Cond.selects (q_y YX8_bladderAt).cls (q_y YX8_bladderAt) (q_y YX8_bladderAt) ∈ q_T := ⟨q_in 1333 (by decide +kernel) rfl, q_in 75 (by decide +kernel) rfl⟩
theorem vX8_bladder : Cond.instanceMethod (q_y YX8_bladder) ∈ q_T ∧ Cond.selects (q_y YX8_bladder).cls (q_y YX8_bladder) (q_y YX8_bladder) ∈ q_T := ⟨q_in 1328 (by decide +kernel) rfl, q_in 1329 (by decide +kernel) rfl⟩
theorem vX8_beats : Cond.instanceMethod (q_y YX8_beats) ∈ q_T ∧ Cond.selects (q_y YX8_beats).cls (q_y YX8_beats) (q_y YX8_beats) ∈ q_T := ⟨q_in 1336 (by decide +kernel) rfl, q_in 1337 (by decide +kernel) rfl⟩
theorem vX8_saw : Cond.instanceMethod (q_y YX8_saw) ∈ q_T ∧ Cond.selects (q_y YX8_saw).cls (q_y YX8_saw) (q_y YX8_saw) ∈ q_T := ⟨q_in 1342 (by decide +kernel) rfl, q_in 1343 (by decide +kernel) rfl⟩
theorem vX8_forget : Cond.instanceMethod (q_y YX8_forget) ∈ q_T ∧ Cond.selects (q_y YX8_forget).cls (q_y YX8_forget) (q_y YX8_forget) ∈ q_T := ⟨q_in 1346 (by decide +kernel) rfl, q_in 1347 (by decide +kernel) rfl⟩
theorem vX8_canBe : Cond.instanceMethod (q_y YX8_canBe) ∈ q_T ∧ Cond.selects (q_y YX8_canBe).cls (q_y YX8_canBe) (q_y YX8_canBe) ∈ q_T := ⟨q_in 1355 (by decide +kernel) rfl, q_in 76 (by decide +kernel) rfl⟩
theorem vX8_fits : Cond.instanceMethod (q_y YX8_fits) ∈ q_T ∧ Cond.selects (q_y YX8_fits).cls (q_y YX8_fits) (q_y YX8_fits) ∈ q_T := ⟨q_in 1350 (by decide +kernel) rfl, q_in 1351 (by decide +kernel) rfl⟩
theorem vX8_who : Cond.instanceMethod (q_y YX8_who) ∈ q_T ∧ Cond.selects (q_y YX8_who).cls (q_y YX8_who) (q_y YX8_who) ∈ q_T := ⟨q_in 1358 (by decide +kernel) rfl, q_in 1359 (by decide +kernel) rfl⟩
theorem vX8_copies : Cond.instanceMethod (q_y YX8_copies) ∈ q_T ∧ Cond.selects (q_y YX8_copies).cls (q_y YX8_copies) (q_y YX8_copies) ∈ q_T := ⟨q_in 1367 (by decide +kernel) rfl, q_in 77 (by decide +kernel) rfl⟩
theorem vX8_keep : Cond.instanceMethod (q_y YX8_keep) ∈ q_T ∧ Cond.selects (q_y YX8_keep).cls (q_y YX8_keep) (q_y YX8_keep) ∈ q_T := ⟨q_in 1362 (by decide +kernel) rfl, q_in 1363 (by decide +kernel) rfl⟩
theorem vX8_restore : Cond.instanceMethod (q_y YX8_restore) ∈ q_T ∧ Cond.selects (q_y YX8_restore).cls (q_y YX8_restore) (q_y YX8_restore) ∈ q_T := ⟨q_in 1370 (by decide +kernel) rfl, q_in 1371 (by decide +kernel) rfl⟩
theorem sX8_isSheet : Cond.static (q_y YX8_isSheet) ∈ q_T := q_in 1378 (by decide +kernel) rfl
theorem vX8_sheet : Cond.instanceMethod (q_y YX8_sheet) ∈ q_T ∧ Cond.selects (q_y YX8_sheet).cls (q_y YX8_sheet) (q_y YX8_sheet) ∈ q_T := ⟨q_in 1374 (by decide +kernel) rfl, q_in 1375 (by decide +kernel) rfl⟩
theorem vX8_lay : Cond.instanceMethod (q_y YX8_lay) ∈ q_T ∧ Cond.selects (q_y YX8_lay).cls (q_y YX8_lay) (q_y YX8_lay) ∈ q_T := ⟨q_in 1381 (by decide +kernel) rfl, q_in 1382 (by decide +kernel) rfl⟩
theorem vX8_read : Cond.instanceMethod (q_y YX8_read) ∈ q_T ∧ Cond.selects (q_y YX8_read).cls (q_y YX8_read) (q_y YX8_read) ∈ q_T := ⟨q_in 1385 (by decide +kernel) rfl, q_in 1386 (by decide +kernel) rfl⟩
theorem vX8_torn : Cond.instanceMethod (q_y YX8_torn) ∈ q_T ∧ Cond.selects (q_y YX8_torn).cls (q_y YX8_torn) (q_y YX8_torn) ∈ q_T := ⟨q_in 1391 (by decide +kernel) rfl, q_in 1392 (by decide +kernel) rfl⟩
theorem vX8_count : Cond.instanceMethod (q_y YX8_count) ∈ q_T ∧ Cond.selects (q_y YX8_count).cls (q_y YX8_count) (q_y YX8_count) ∈ q_T := ⟨q_in 1395 (by decide +kernel) rfl, q_in 1396 (by decide +kernel) rfl⟩
theorem sJ9_floorMod_7cf53 : Cond.static (q_y YJ9_floorMod_7cf53) ∈ q_T := q_in 801 (by decide +kernel) rfl
theorem sJ9_abs_0f7a4 : Cond.static (q_y YJ9_abs_0f7a4) ∈ q_T := q_in 705 (by decide +kernel) rfl
theorem sJ9_max_7cf53 : Cond.static (q_y YJ9_max_7cf53) ∈ q_T := q_in 631 (by decide +kernel) rfl
theorem sJ9_min_7cf53 : Cond.static (q_y YJ9_min_7cf53) ∈ q_T := q_in 543 (by decide +kernel) rfl
theorem vJ0_length_8abf5 : Cond.instanceMethod (q_y YJ0_length_8abf5) ∈ q_T ∧ Cond.selects (q_y YJ0_length_8abf5).cls (q_y YJ0_length_8abf5) (q_y YJ0_length_8abf5) ∈ q_T := ⟨q_in 432 (by decide +kernel) rfl, q_in 433 (by decide +kernel) rfl⟩
theorem vJ0_charAt_5068e : Cond.instanceMethod (q_y YJ0_charAt_5068e) ∈ q_T ∧ Cond.selects (q_y YJ0_charAt_5068e).cls (q_y YJ0_charAt_5068e) (q_y YJ0_charAt_5068e) ∈ q_T := ⟨q_in 442 (by decide +kernel) rfl, q_in 443 (by decide +kernel) rfl⟩
theorem vJ0_coder_7d493 : Cond.instanceMethod (q_y YJ0_coder_7d493) ∈ q_T ∧ Cond.selects (q_y YJ0_coder_7d493).cls (q_y YJ0_coder_7d493) (q_y YJ0_coder_7d493) ∈ q_T := ⟨q_in 436 (by decide +kernel) rfl, q_in 437 (by decide +kernel) rfl⟩
theorem vJ0_isLatin1_aae02 : Cond.instanceMethod (q_y YJ0_isLatin1_aae02) ∈ q_T ∧ Cond.selects (q_y YJ0_isLatin1_aae02).cls (q_y YJ0_isLatin1_aae02) (q_y YJ0_isLatin1_aae02) ∈ q_T := ⟨q_in 446 (by decide +kernel) rfl, q_in 447 (by decide +kernel) rfl⟩
theorem sJ0_checkIndex_df160 : Cond.static (q_y YJ0_checkIndex_df160) ∈ q_T := q_in 453 (by decide +kernel) rfl
theorem sJ1_charAt_3b067 : Cond.static (q_y YJ1_charAt_3b067) ∈ q_T := q_in 450 (by decide +kernel) rfl
theorem sJ2_getChar_3b067 : Cond.static (q_y YJ2_getChar_3b067) ∈ q_T := q_in 471 (by decide +kernel) rfl
theorem sJ2_length_9d52b : Cond.static (q_y YJ2_length_9d52b) ∈ q_T := q_in 467 (by decide +kernel) rfl
theorem sJ2_charAt_3b067 : Cond.static (q_y YJ2_charAt_3b067) ∈ q_T := q_in 461 (by decide +kernel) rfl
theorem sJ2_checkIndex_2214a : Cond.static (q_y YJ2_checkIndex_2214a) ∈ q_T := q_in 464 (by decide +kernel) rfl
theorem sJ3_checkIndex_8e157 : Cond.static (q_y YJ3_checkIndex_8e157) ∈ q_T := q_in 458 (by decide +kernel) rfl
theorem q_oi2 : Cond.instanceMethod Lib.objectInit ∈ q_T := q_in 99 (by decide +kernel) rfl
theorem q_oi3 : Cond.code Lib.objectInit ⟨#[0xb1]⟩ 1 none ∈ q_T := q_in 100 (by decide +kernel) rfl
theorem q_ac_int : Cond.arrayClass .int ∈ q_T := q_in 136 (by decide +kernel) rfl
theorem q_ac_byte : Cond.arrayClass .byte ∈ q_T := q_in 135 (by decide +kernel) rfl
theorem q_ac_boolean : Cond.arrayClass .boolean ∈ q_T := q_in 182 (by decide +kernel) rfl
