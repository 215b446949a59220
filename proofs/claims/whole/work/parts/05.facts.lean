theorem iwX1 : ∀ w ∈ u_ws RX1 TX1 13, w ∈ xtb := by decide +kernel
theorem iwX2 : ∀ w ∈ u_ws RX2 TX2 6, w ∈ xtb := by decide +kernel
theorem iwX3 : ∀ w ∈ u_ws RX3 TX3 3, w ∈ xtb := by decide +kernel
theorem iwX4 : ∀ w ∈ u_ws RX4 TX4 4, w ∈ xtb := by decide +kernel
theorem iwX5 : ∀ w ∈ u_ws RX5 TX5 1, w ∈ xtb := by decide +kernel
theorem iwX6 : ∀ w ∈ u_ws RX6 TX6 10, w ∈ xtb := by decide +kernel
theorem iwX7 : ∀ w ∈ u_ws RX7 TX7 6, w ∈ xtb := by decide +kernel
theorem iwX8 : ∀ w ∈ u_ws RX8 TX8 5, w ∈ xtb := by decide +kernel
theorem iwX9 : ∀ w ∈ u_ws RX9 TX9 15, w ∈ xtb := by decide +kernel
theorem iwX10 : ∀ w ∈ u_ws RX10 TX10 38, w ∈ xtb := by decide +kernel
-- the methods: name, code, places, answer, frames and locals below
abbrev mX0_join : xY := (yX0_join, cX0_join, 3, (some .long), 0, 0)
abbrev mX0_sumOf : xY := (yX0_sumOf, cX0_sumOf, 5, (some .int), 0, 0)
abbrev mX0_codeOf : xY := (yX0_codeOf, cX0_codeOf, 2, (some .int), 0, 0)
abbrev mX0_kindOf : xY := (yX0_kindOf, cX0_kindOf, 1, (some .int), 0, 0)
abbrev mX0_directionOf : xY := (yX0_directionOf, cX0_directionOf, 1, (some .int), 0, 0)
abbrev mX0_wordOf : xY := (yX0_wordOf, cX0_wordOf, 1, (some .int), 0, 0)
abbrev mX0_tickOf : xY := (yX0_tickOf, cX0_tickOf, 2, (some .int), 0, 0)
abbrev mX0_seqOf : xY := (yX0_seqOf, cX0_seqOf, 2, (some .int), 0, 0)
abbrev mX0_areWhole : xY := (yX0_areWhole, cX0_areWhole, 4, (some .boolean), 1, 24)
abbrev mX0_areOfAKind : xY := (yX0_areOfAKind, cX0_areOfAKind, 5, (some .boolean), 1, 21)
abbrev mX1_lay : xY := (yX1_lay, cX1_lay, 6, none, 1, 23)
abbrev mX1_layCell : xY := (yX1_layCell, cX1_layCell, 4, none, 0, 0)
abbrev mX1_addDoor : xY := (yX1_addDoor, cX1_addDoor, 3, (some .int), 0, 0)
abbrev mX1_addThing : xY := (yX1_addThing, cX1_addThing, 2, (some .int), 0, 0)
abbrev mX1_hasCell : xY := (yX1_hasCell, cX1_hasCell, 2, (some .boolean), 0, 0)
abbrev mX1_hasDoor : xY := (yX1_hasDoor, cX1_hasDoor, 2, (some .boolean), 0, 0)
abbrev mX1_hasPlayer : xY := (yX1_hasPlayer, cX1_hasPlayer, 2, (some .boolean), 0, 0)
abbrev mX1_firstCellOf : xY := (yX1_firstCellOf, cX1_firstCellOf, 2, (some .int), 0, 0)
abbrev mX1_nextTo : xY := (yX1_nextTo, cX1_nextTo, 3, (some .int), 0, 0)
abbrev mX2_wipe : xY := (yX2_wipe, cX2_wipe, 1, none, 0, 0)
abbrev mX2_noted : xY := (yX2_noted, cX2_noted, 1, (some .int), 0, 0)
abbrev mX2_keepHits : xY := (yX2_keepHits, cX2_keepHits, 6, none, 1, 22)
abbrev mX2_noteGoingBack : xY := (yX2_noteGoingBack, cX2_noteGoingBack, 7, none, 1, 24)
abbrev mX2_noteTakenBack : xY := (yX2_noteTakenBack, cX2_noteTakenBack, 5, none, 0, 0)
abbrev mX3_wipe : xY := (yX3_wipe, cX3_wipe, 1, none, 1, 23)
abbrev mX3_noteAct : xY := (yX3_noteAct, cX3_noteAct, 5, none, 0, 0)
abbrev mX3_codeOf : xY := (yX3_codeOf, cX3_codeOf, 3, (some .int), 0, 0)
abbrev mX3_isLate : xY := (yX3_isLate, cX3_isLate, 3, (some .boolean), 0, 0)
abbrev mX3_noteHit : xY := (yX3_noteHit, cX3_noteHit, 4, none, 0, 0)
abbrev mX3_hitOf : xY := (yX3_hitOf, cX3_hitOf, 3, (some .int), 0, 0)
abbrev mX4_wipe : xY := (yX4_wipe, cX4_wipe, 1, none, 1, 23)
abbrev mX4_addTrial : xY := (yX4_addTrial, cX4_addTrial, 5, none, 1, 24)
abbrev mX4_spread : xY := (yX4_spread, cX4_spread, 5, none, 0, 0)
abbrev mX4_tail : xY := (yX4_tail, cX4_tail, 3, (some .int), 0, 0)
abbrev mX5_stateAt : xY := (yX5_stateAt, cX5_stateAt, 2, (some (.object "RunJudge$State")), 0, 0)
abbrev mX5_restart : xY := (yX5_restart, cX5_restart, 2, none, 2, 47)
abbrev mX5_work : xY := (yX5_work, cX5_work, 6, none, 4, 99)
abbrev mX6_arrange : xY := (yX6_arrange, cX6_arrange, 2, none, 1, 23)
abbrev mX6_putNew : xY := (yX6_putNew, cX6_putNew, 4, none, 0, 0)
abbrev mX6_copyFrom : xY := (yX6_copyFrom, cX6_copyFrom, 2, none, 1, 26)
abbrev mX6_standsOrLiesIn : xY := (yX6_standsOrLiesIn, cX6_standsOrLiesIn, 3, (some .boolean), 0, 0)
abbrev mX6_holdsThing : xY := (yX6_holdsThing, cX6_holdsThing, 3, (some .boolean), 0, 0)
abbrev mX6_standingIn : xY := (yX6_standingIn, cX6_standingIn, 3, (some .int), 0, 0)
abbrev mX6_bars : xY := (yX6_bars, cX6_bars, 2, (some .boolean), 0, 0)
abbrev mX6_isShutDoor : xY := (yX6_isShutDoor, cX6_isShutDoor, 2, (some .boolean), 0, 0)
abbrev mX6_isFree : xY := (yX6_isFree, cX6_isFree, 2, (some .boolean), 1, 22)
abbrev mX6_carries : xY := (yX6_carries, cX6_carries, 3, (some .boolean), 0, 0)
abbrev mX6_reaches : xY := (yX6_reaches, cX6_reaches, 10, (some .boolean), 1, 22)
abbrev mX6_spots : xY := (yX6_spots, cX6_spots, 3, (some .boolean), 2, 51)
abbrev mX6_looksOf : xY := (yX6_looksOf, cX6_looksOf, 2, (some .int), 0, 0)
abbrev mX6_tellOf : xY := (yX6_tellOf, cX6_tellOf, 5, (some .int), 3, 73)
abbrev mX6_letterTo : xY := (yX6_letterTo, cX6_letterTo, 4, (some .int), 3, 73)
abbrev mX6_addThingsIn : xY := (yX6_addThingsIn, cX6_addThingsIn, 4, (some .int), 1, 22)
abbrev mX6_sumUp : xY := (yX6_sumUp, cX6_sumUp, 4, (some .int), 0, 0)
abbrev mX6_forbids : xY := (yX6_forbids, cX6_forbids, 3, (some .boolean), 1, 22)
abbrev mX6_isDoor : xY := (yX6_isDoor, cX6_isDoor, 2, (some .boolean), 0, 0)
abbrev mX6_shotChance : xY := (yX6_shotChance, cX6_shotChance, 5, (some .int), 4, 98)
abbrev mX6_unseenInLine : xY := (yX6_unseenInLine, cX6_unseenInLine, 6, (some .int), 3, 73)
abbrev mX6_hiddenThings : xY := (yX6_hiddenThings, cX6_hiddenThings, 4, (some .int), 3, 73)
abbrev mX6_darkCells : xY := (yX6_darkCells, cX6_darkCells, 4, (some .int), 3, 73)
abbrev mX6_wordChance : xY := (yX6_wordChance, cX6_wordChance, 4, (some .int), 1, 22)
abbrev mX6_isWordNext : xY := (yX6_isWordNext, cX6_isWordNext, 5, (some .boolean), 1, 22)
abbrev mX6_moveBodies : xY := (yX6_moveBodies, cX6_moveBodies, 9, none, 3, 71)
abbrev mX6_shoot : xY := (yX6_shoot, cX6_shoot, 6, (some .int), 2, 45)
abbrev mX6_hurl : xY := (yX6_hurl, cX6_hurl, 7, (some .int), 2, 45)
abbrev mX6_tryWord : xY := (yX6_tryWord, cX6_tryWord, 4, none, 2, 46)
abbrev mX6_pickUp : xY := (yX6_pickUp, cX6_pickUp, 3, none, 0, 0)
abbrev mX6_letGo : xY := (yX6_letGo, cX6_letGo, 4, none, 0, 0)
abbrev mX6_hurt : xY := (yX6_hurt, cX6_hurt, 3, none, 1, 23)
abbrev mX6_enterIfFree : xY := (yX6_enterIfFree, cX6_enterIfFree, 5, none, 2, 45)
abbrev mX6_moveBeasts : xY := (yX6_moveBeasts, cX6_moveBeasts, 6, none, 3, 74)
abbrev mX6_nearestTo : xY := (yX6_nearestTo, cX6_nearestTo, 4, (some .int), 2, 51)
abbrev mX6_columnsBetween : xY := (yX6_columnsBetween, cX6_columnsBetween, 3, (some .int), 0, 0)
abbrev mX6_rowsBetween : xY := (yX6_rowsBetween, cX6_rowsBetween, 3, (some .int), 0, 0)
abbrev mX6_distance : xY := (yX6_distance, cX6_distance, 3, (some .int), 1, 22)
abbrev mX6_cellTowards : xY := (yX6_cellTowards, cX6_cellTowards, 7, (some .int), 2, 43)
abbrev mX6_endTick : xY := (yX6_endTick, cX6_endTick, 2, none, 1, 22)
abbrev mX6_readPlates : xY := (yX6_readPlates, cX6_readPlates, 2, none, 0, 0)
abbrev mX7_wipe : xY := (yX7_wipe, cX7_wipe, 1, none, 2, 43)
abbrev mX7_countHit : xY := (yX7_countHit, cX7_countHit, 2, none, 0, 0)
abbrev mX7_lookAtGap : xY := (yX7_lookAtGap, cX7_lookAtGap, 5, none, 2, 48)
abbrev mX8_holdRow : xY := (yX8_holdRow, cX8_holdRow, 3, none, 1, 24)
abbrev mX8_holdView : xY := (yX8_holdView, cX8_holdView, 4, none, 4, 97)
abbrev mX8_isRow : xY := (yX8_isRow, cX8_isRow, 1, (some .boolean), 0, 0)
abbrev mX8_hasPlace : xY := (yX8_hasPlace, cX8_hasPlace, 2, (some .boolean), 0, 0)
abbrev mX8_hasPlaces : xY := (yX8_hasPlaces, cX8_hasPlaces, 3, (some .boolean), 0, 0)
abbrev mX8_narrowed : xY := (yX8_narrowed, cX8_narrowed, 3, (some .long), 0, 0)
abbrev mX9_begin : xY := (yX9_begin, cX9_begin, 4, (some .int), 4, 92)
abbrev mX9_startAnew : xY := (yX9_startAnew, cX9_startAnew, 5, none, 3, 68)
abbrev mX9_hasStarted : xY := (yX9_hasStarted, cX9_hasStarted, 1, (some .boolean), 0, 0)
abbrev mX9_wall : xY := (yX9_wall, cX9_wall, 3, (some .int), 1, 22)
abbrev mX9_door : xY := (yX9_door, cX9_door, 3, (some .int), 1, 22)
abbrev mX9_plate : xY := (yX9_plate, cX9_plate, 3, (some .int), 3, 68)
abbrev mX9_place : xY := (yX9_place, cX9_place, 5, (some .int), 3, 68)
abbrev mX9_late : xY := (yX9_late, cX9_late, 3, (some .int), 1, 20)
abbrev mX9_risk : xY := (yX9_risk, cX9_risk, 3, (some .int), 0, 0)
abbrev mX9_pack : xY := (yX9_pack, cX9_pack, 11, (some .long), 1, 24)
abbrev mX9_feed : xY := (yX9_feed, cX9_feed, 4, (some .int), 6, 149)
abbrev mX9_receive : xY := (yX9_receive, cX9_receive, 6, (some .int), 5, 124)
abbrev mX9_refusalOf : xY := (yX9_refusalOf, cX9_refusalOf, 6, (some .int), 2, 47)
abbrev mX9_step : xY := (yX9_step, cX9_step, 3, (some .int), 6, 151)
abbrev mX9_lookAt : xY := (yX9_lookAt, cX9_lookAt, 10, none, 5, 122)
abbrev mX9_body : xY := (yX9_body, cX9_body, 4, (some .int), 1, 21)
abbrev mX9_thing : xY := (yX9_thing, cX9_thing, 4, (some .int), 1, 21)
abbrev mX9_open : xY := (yX9_open, cX9_open, 2, (some .int), 1, 21)
abbrev mX9_sees : xY := (yX9_sees, cX9_sees, 3, (some .int), 3, 73)
abbrev mX9_told : xY := (yX9_told, cX9_told, 3, (some .int), 4, 97)
abbrev mX9_letter : xY := (yX9_letter, cX9_letter, 3, (some .int), 4, 96)
abbrev mX9_digest : xY := (yX9_digest, cX9_digest, 2, (some .int), 1, 23)
abbrev mX9_remembers : xY := (yX9_remembers, cX9_remembers, 2, (some .boolean), 0, 0)
abbrev mX9_replay : xY := (yX9_replay, cX9_replay, 2, (some .int), 5, 124)
abbrev mX9_fall : xY := (yX9_fall, cX9_fall, 2, (some .int), 5, 124)
abbrev mX9_act : xY := (yX9_act, cX9_act, 3, (some .int), 1, 22)
abbrev mX9_hit : xY := (yX9_hit, cX9_hit, 3, (some .int), 1, 22)
abbrev mX9_taken : xY := (yX9_taken, cX9_taken, 3, (some .int), 1, 20)
abbrev mX9_back : xY := (yX9_back, cX9_back, 2, (some .int), 0, 0)
abbrev mX9_watch : xY := (yX9_watch, cX9_watch, 5, (some .int), 1, 22)
abbrev mX9_fair : xY := (yX9_fair, cX9_fair, 3, (some .int), 1, 21)
abbrev mX9_count : xY := (yX9_count, cX9_count, 2, (some .int), 0, 0)
abbrev mX9_isTape : xY := (yX9_isTape, cX9_isTape, 1, (some .boolean), 0, 0)
abbrev mX9_refuse : xY := (yX9_refuse, cX9_refuse, 2, (some .int), 0, 0)
abbrev mX9_refuseBut : xY := (yX9_refuseBut, cX9_refuseBut, 4, (some .int), 1, 21)
abbrev mX9_tape : xY := (yX9_tape, cX9_tape, 4, (some .int), 2, 46)
abbrev mX9_view : xY := (yX9_view, cX9_view, 3, (some .int), 5, 120)
abbrev mX9_clear : xY := (yX9_clear, cX9_clear, 3, (some .int), 1, 20)
abbrev mX9_put : xY := (yX9_put, cX9_put, 7, (some .int), 2, 44)
abbrev mX9_copy : xY := (yX9_copy, cX9_copy, 8, (some .int), 1, 26)
abbrev mX9_play : xY := (yX9_play, cX9_play, 9, (some .int), 6, 149)
abbrev mX9_kept : xY := (yX9_kept, cX9_kept, 5, (some .int), 2, 44)
abbrev mX10_thrown : xY := (yX10_thrown, cX10_thrown, 1, (some .int), 0, 0)
abbrev mX10_in : xY := (yX10_in, cX10_in, 3, (some .boolean), 0, 0)
abbrev mX10_host : xY := (yX10_host, cX10_host, 2, (some .int), 0, 0)
abbrev mX10_floorOf : xY := (yX10_floorOf, cX10_floorOf, 3, (some .int), 0, 0)
abbrev mX10_fresh : xY := (yX10_fresh, cX10_fresh, 3, none, 1, 23)
abbrev mX10_addThing : xY := (yX10_addThing, cX10_addThing, 4, none, 0, 0)
abbrev mX10_begin : xY := (yX10_begin, cX10_begin, 4, (some .int), 2, 45)
abbrev mX10_isCell : xY := (yX10_isCell, cX10_isCell, 2, (some .boolean), 1, 22)
abbrev mX10_isStarted : xY := (yX10_isStarted, cX10_isStarted, 3, (some .boolean), 0, 0)
abbrev mX10_hasThing : xY := (yX10_hasThing, cX10_hasThing, 3, (some .boolean), 0, 0)
abbrev mX10_wall : xY := (yX10_wall, cX10_wall, 2, (some .int), 2, 43)
abbrev mX10_door : xY := (yX10_door, cX10_door, 3, (some .int), 2, 43)
abbrev mX10_plate : xY := (yX10_plate, cX10_plate, 3, (some .int), 2, 45)
abbrev mX10_place : xY := (yX10_place, cX10_place, 3, (some .int), 2, 45)
abbrev mX10_late : xY := (yX10_late, cX10_late, 3, (some .int), 1, 22)
abbrev mX10_risk : xY := (yX10_risk, cX10_risk, 3, (some .int), 1, 22)
abbrev mX10_stands : xY := (yX10_stands, cX10_stands, 3, (some .boolean), 0, 0)
abbrev mX10_lies : xY := (yX10_lies, cX10_lies, 3, (some .boolean), 0, 0)
abbrev mX10_standingIn : xY := (yX10_standingIn, cX10_standingIn, 4, (some .int), 1, 22)
abbrev mX10_isShut : xY := (yX10_isShut, cX10_isShut, 3, (some .boolean), 0, 0)
abbrev mX10_bars : xY := (yX10_bars, cX10_bars, 3, (some .boolean), 1, 22)
abbrev mX10_nextTo : xY := (yX10_nextTo, cX10_nextTo, 5, (some .int), 0, 0)
abbrev mX10_amount : xY := (yX10_amount, cX10_amount, 1, (some .int), 0, 0)
abbrev mX10_seesCell : xY := (yX10_seesCell, cX10_seesCell, 11, (some .boolean), 2, 44)
abbrev mX10_thingSees : xY := (yX10_thingSees, cX10_thingSees, 5, (some .boolean), 3, 74)
abbrev mX10_lose : xY := (yX10_lose, cX10_lose, 5, none, 1, 23)
abbrev mX10_drop : xY := (yX10_drop, cX10_drop, 4, none, 0, 0)
abbrev mX10_goTo : xY := (yX10_goTo, cX10_goTo, 7, none, 2, 47)
abbrev mX10_isFree : xY := (yX10_isFree, cX10_isFree, 3, (some .boolean), 2, 45)
abbrev mX10_shoot : xY := (yX10_shoot, cX10_shoot, 8, (some .int), 2, 47)
abbrev mX10_throwIt : xY := (yX10_throwIt, cX10_throwIt, 10, (some .int), 2, 47)
abbrev mX10_take : xY := (yX10_take, cX10_take, 5, none, 1, 22)
abbrev mX10_does : xY := (yX10_does, cX10_does, 7, (some .int), 3, 76)
abbrev mX10_far : xY := (yX10_far, cX10_far, 3, (some .int), 1, 20)
abbrev mX10_prey : xY := (yX10_prey, cX10_prey, 7, (some .int), 4, 98)
abbrev mX10_hunt : xY := (yX10_hunt, cX10_hunt, 13, (some .boolean), 5, 124)
abbrev mX10_learn : xY := (yX10_learn, cX10_learn, 4, none, 1, 22)
abbrev mX10_work : xY := (yX10_work, cX10_work, 5, none, 6, 156)
abbrev mX10_digestOf : xY := (yX10_digestOf, cX10_digestOf, 5, (some .int), 0, 0)
abbrev mX10_letterOf : xY := (yX10_letterOf, cX10_letterOf, 7, (some .int), 4, 98)
abbrev mX10_mapTold : xY := (yX10_mapTold, cX10_mapTold, 3, (some .int), 1, 22)
abbrev mX10_isTold : xY := (yX10_isTold, cX10_isTold, 4, (some .boolean), 1, 22)
abbrev mX10_pack : xY := (yX10_pack, cX10_pack, 12, (some .long), 0, 0)
abbrev mX10_part : xY := (yX10_part, cX10_part, 4, (some .int), 0, 0)
abbrev mX10_lack : xY := (yX10_lack, cX10_lack, 10, (some .int), 2, 51)
abbrev mX10_isCrafted : xY := (yX10_isCrafted, cX10_isCrafted, 8, (some .boolean), 1, 24)
abbrev mX10_goBack : xY := (yX10_goBack, cX10_goBack, 3, none, 7, 180)
abbrev mX10_feed : xY := (yX10_feed, cX10_feed, 6, (some .int), 8, 202)
abbrev mX10_step : xY := (yX10_step, cX10_step, 2, (some .int), 7, 180)
abbrev mX10_tailOf : xY := (yX10_tailOf, cX10_tailOf, 5, (some .long), 0, 0)
abbrev mX10_tried : xY := (yX10_tried, cX10_tried, 8, none, 1, 24)
abbrev mX10_look : xY := (yX10_look, cX10_look, 6, none, 5, 128)
abbrev mX10_foresee : xY := (yX10_foresee, cX10_foresee, 11, none, 4, 98)
abbrev mX10_guess : xY := (yX10_guess, cX10_guess, 5, none, 2, 51)
abbrev mX10_isPlayer : xY := (yX10_isPlayer, cX10_isPlayer, 2, (some .boolean), 1, 22)
abbrev mX10_body : xY := (yX10_body, cX10_body, 4, (some .int), 2, 43)
abbrev mX10_thing : xY := (yX10_thing, cX10_thing, 4, (some .int), 1, 22)
abbrev mX10_open : xY := (yX10_open, cX10_open, 2, (some .int), 1, 22)
abbrev mX10_seesNow : xY := (yX10_seesNow, cX10_seesNow, 4, (some .boolean), 4, 98)
abbrev mX10_sees : xY := (yX10_sees, cX10_sees, 3, (some .int), 5, 121)
abbrev mX10_toldOf : xY := (yX10_toldOf, cX10_toldOf, 6, (some .int), 5, 121)
abbrev mX10_told : xY := (yX10_told, cX10_told, 3, (some .int), 6, 146)
abbrev mX10_isNear : xY := (yX10_isNear, cX10_isNear, 2, (some .boolean), 1, 22)
abbrev mX10_letter : xY := (yX10_letter, cX10_letter, 3, (some .int), 5, 124)
abbrev mX10_digest : xY := (yX10_digest, cX10_digest, 2, (some .int), 2, 43)
abbrev mX10_replay : xY := (yX10_replay, cX10_replay, 2, (some .int), 1, 24)
abbrev mX10_fall : xY := (yX10_fall, cX10_fall, 3, (some .int), 7, 180)
abbrev mX10_act : xY := (yX10_act, cX10_act, 3, (some .int), 2, 43)
abbrev mX10_hit : xY := (yX10_hit, cX10_hit, 3, (some .int), 2, 43)
abbrev mX10_taken : xY := (yX10_taken, cX10_taken, 3, (some .int), 1, 22)
abbrev mX10_back : xY := (yX10_back, cX10_back, 2, (some .int), 0, 0)
abbrev mX10_watch : xY := (yX10_watch, cX10_watch, 5, (some .int), 2, 43)
abbrev mX10_fair : xY := (yX10_fair, cX10_fair, 5, (some .int), 2, 43)
abbrev mX10_isTape : xY := (yX10_isTape, cX10_isTape, 1, (some .boolean), 1, 22)
abbrev mX10_tape : xY := (yX10_tape, cX10_tape, 5, (some .int), 2, 42)
abbrev mX10_view : xY := (yX10_view, cX10_view, 4, (some .int), 6, 146)
abbrev mX10_clear : xY := (yX10_clear, cX10_clear, 3, (some .int), 2, 42)
abbrev mX10_narrow : xY := (yX10_narrow, cX10_narrow, 3, (some .long), 0, 0)
abbrev mX10_put : xY := (yX10_put, cX10_put, 5, (some .int), 2, 42)
abbrev mX10_at : xY := (yX10_at, cX10_at, 3, (some .long), 2, 42)
abbrev mX10_copy : xY := (yX10_copy, cX10_copy, 7, (some .int), 2, 42)
abbrev mX10_play : xY := (yX10_play, cX10_play, 6, (some .int), 9, 227)
abbrev mX10_kept : xY := (yX10_kept, cX10_kept, 3, (some .int), 2, 42)
abbrev mX10_toss : xY := (yX10_toss, cX10_toss, 2, (some .int), 2, 42)
abbrev mX10_count : xY := (yX10_count, cX10_count, 2, (some .int), 0, 0)
abbrev mJ9_floorDiv_7cf53 : xY := (yJ9_floorDiv_7cf53, cJ9_floorDiv_7cf53, 3, (some .int), 0, 0)
abbrev mJ9_abs_0f7a4 : xY := (yJ9_abs_0f7a4, cJ9_abs_0f7a4, 1, (some .int), 0, 0)
abbrev mJ9_max_7cf53 : xY := (yJ9_max_7cf53, cJ9_max_7cf53, 2, (some .int), 0, 0)
abbrev mJ9_min_7cf53 : xY := (yJ9_min_7cf53, cJ9_min_7cf53, 2, (some .int), 0, 0)
abbrev mJ7_fill_d0a16 : xY := (yJ7_fill_d0a16, cJ7_fill_d0a16, 5, none, 0, 0)
abbrev mJ7_fill_53178 : xY := (yJ7_fill_53178, cJ7_fill_53178, 4, none, 0, 0)
abbrev mJ7_fill_031fb : xY := (yJ7_fill_031fb, cJ7_fill_031fb, 4, none, 0, 0)
theorem fgX1_9 : xFd RX1 9 0 6 := ⟨RX1, TX1, 13, rfl, by decide, rfl, xint 52 (by decide +kernel) rfl, iwX1⟩ -- map
theorem fgX1_15 : xFd RX1 15 0 7 := ⟨RX1, TX1, 13, rfl, by decide, rfl, xint 55 (by decide +kernel) rfl, iwX1⟩ -- link
theorem fgX1_18 : xFd RX1 18 0 8 := ⟨RX1, TX1, 13, rfl, by decide, rfl, xint 58 (by decide +kernel) rfl, iwX1⟩ -- columnOf
theorem fgX1_21 : xFd RX1 21 0 9 := ⟨RX1, TX1, 13, rfl, by decide, rfl, xint 60 (by decide +kernel) rfl, iwX1⟩ -- rowOf
theorem fgX1_24 : xFd RX1 24 0 10 := ⟨RX1, TX1, 13, rfl, by decide, rfl, xint 62 (by decide +kernel) rfl, iwX1⟩ -- neighbours
theorem fgX1_27 : xFd RX1 27 0 11 := ⟨RX1, TX1, 13, rfl, by decide, rfl, xint 63 (by decide +kernel) rfl, iwX1⟩ -- words
theorem fgX1_30 : xFd RX1 30 0 12 := ⟨RX1, TX1, 13, rfl, by decide, rfl, xint 65 (by decide +kernel) rfl, iwX1⟩ -- kinds
theorem fgX1_33 : xFd RX1 33 0 0 := ⟨RX1, TX1, 13, rfl, by decide, rfl, xint 34 (by decide +kernel) rfl, iwX1⟩ -- columns
theorem fgX1_37 : xFd RX1 37 0 1 := ⟨RX1, TX1, 13, rfl, by decide, rfl, xint 37 (by decide +kernel) rfl, iwX1⟩ -- rows
theorem fgX1_40 : xFd RX1 40 0 2 := ⟨RX1, TX1, 13, rfl, by decide, rfl, xint 39 (by decide +kernel) rfl, iwX1⟩ -- players
theorem fgX1_43 : xFd RX1 43 0 3 := ⟨RX1, TX1, 13, rfl, by decide, rfl, xint 42 (by decide +kernel) rfl, iwX1⟩ -- cells
theorem fgX1_46 : xFd RX1 46 0 4 := ⟨RX1, TX1, 13, rfl, by decide, rfl, xint 46 (by decide +kernel) rfl, iwX1⟩ -- doors
theorem fgX1_49 : xFd RX1 49 0 5 := ⟨RX1, TX1, 13, rfl, by decide, rfl, xint 49 (by decide +kernel) rfl, iwX1⟩ -- things
theorem fgX10_7 : xFd RX10 7 9 1 := ⟨RX10, TX10, 38, rfl, by decide, rfl, xint 1015 (by decide +kernel) rfl, iwX10⟩ -- w
theorem fgX10_13 : xFd RX10 13 9 2 := ⟨RX10, TX10, 38, rfl, by decide, rfl, xint 1016 (by decide +kernel) rfl, iwX10⟩ -- h
theorem fgX10_16 : xFd RX10 16 9 3 := ⟨RX10, TX10, 38, rfl, by decide, rfl, xint 1017 (by decide +kernel) rfl, iwX10⟩ -- players
theorem fgX10_19 : xFd RX10 19 9 4 := ⟨RX10, TX10, 38, rfl, by decide, rfl, xint 1018 (by decide +kernel) rfl, iwX10⟩ -- map
theorem fgX10_23 : xFd RX10 23 9 5 := ⟨RX10, TX10, 38, rfl, by decide, rfl, xint 1019 (by decide +kernel) rfl, iwX10⟩ -- doorAt
theorem fgX10_26 : xFd RX10 26 9 7 := ⟨RX10, TX10, 38, rfl, by decide, rfl, xint 1021 (by decide +kernel) rfl, iwX10⟩ -- word
theorem fgX10_29 : xFd RX10 29 9 9 := ⟨RX10, TX10, 38, rfl, by decide, rfl, xint 1023 (by decide +kernel) rfl, iwX10⟩ -- kind
theorem fgX10_32 : xFd RX10 32 9 11 := ⟨RX10, TX10, 38, rfl, by decide, rfl, xint 1025 (by decide +kernel) rfl, iwX10⟩ -- late
theorem fgX10_35 : xFd RX10 35 9 12 := ⟨RX10, TX10, 38, rfl, by decide, rfl, xint 1026 (by decide +kernel) rfl, iwX10⟩ -- risk
theorem fgX10_39 : xFd RX10 39 9 13 := ⟨RX10, TX10, 38, rfl, by decide, rfl, xint 1027 (by decide +kernel) rfl, iwX10⟩ -- states
theorem fgX10_42 : xFd RX10 42 9 14 := ⟨RX10, TX10, 38, rfl, by decide, rfl, xint 1028 (by decide +kernel) rfl, iwX10⟩ -- acts
theorem fgX10_45 : xFd RX10 45 9 15 := ⟨RX10, TX10, 38, rfl, by decide, rfl, xint 1029 (by decide +kernel) rfl, iwX10⟩ -- cameLate
theorem fgX10_49 : xFd RX10 49 9 16 := ⟨RX10, TX10, 38, rfl, by decide, rfl, xint 1030 (by decide +kernel) rfl, iwX10⟩ -- hits
theorem fgX10_52 : xFd RX10 52 9 17 := ⟨RX10, TX10, 38, rfl, by decide, rfl, xint 1031 (by decide +kernel) rfl, iwX10⟩ -- seq
theorem fgX10_55 : xFd RX10 55 9 25 := ⟨RX10, TX10, 38, rfl, by decide, rfl, xint 1039 (by decide +kernel) rfl, iwX10⟩ -- taken
theorem fgX10_58 : xFd RX10 58 9 26 := ⟨RX10, TX10, 38, rfl, by decide, rfl, xint 1040 (by decide +kernel) rfl, iwX10⟩ -- before
theorem fgX10_61 : xFd RX10 61 9 27 := ⟨RX10, TX10, 38, rfl, by decide, rfl, xint 1041 (by decide +kernel) rfl, iwX10⟩ -- trials
theorem fgX10_64 : xFd RX10 64 9 28 := ⟨RX10, TX10, 38, rfl, by decide, rfl, xint 1042 (by decide +kernel) rfl, iwX10⟩ -- lucky
theorem fgX10_67 : xFd RX10 67 9 29 := ⟨RX10, TX10, 38, rfl, by decide, rfl, xint 1043 (by decide +kernel) rfl, iwX10⟩ -- toldAt
theorem fgX10_70 : xFd RX10 70 9 30 := ⟨RX10, TX10, 38, rfl, by decide, rfl, xint 1044 (by decide +kernel) rfl, iwX10⟩ -- rows
theorem fgX10_74 : xFd RX10 74 9 31 := ⟨RX10, TX10, 38, rfl, by decide, rfl, xint 1045 (by decide +kernel) rfl, iwX10⟩ -- lastTick
theorem fgX10_77 : xFd RX10 77 9 32 := ⟨RX10, TX10, 38, rfl, by decide, rfl, xint 1046 (by decide +kernel) rfl, iwX10⟩ -- lastGap
theorem fgX10_80 : xFd RX10 80 9 33 := ⟨RX10, TX10, 38, rfl, by decide, rfl, xint 1047 (by decide +kernel) rfl, iwX10⟩ -- sort
theorem fgX10_83 : xFd RX10 83 9 34 := ⟨RX10, TX10, 38, rfl, by decide, rfl, xint 1048 (by decide +kernel) rfl, iwX10⟩ -- size
theorem fgX10_86 : xFd RX10 86 9 35 := ⟨RX10, TX10, 38, rfl, by decide, rfl, xint 1049 (by decide +kernel) rfl, iwX10⟩ -- world
theorem fgX10_89 : xFd RX10 89 9 36 := ⟨RX10, TX10, 38, rfl, by decide, rfl, xint 1050 (by decide +kernel) rfl, iwX10⟩ -- held
theorem fgX10_92 : xFd RX10 92 9 37 := ⟨RX10, TX10, 38, rfl, by decide, rfl, xint 1051 (by decide +kernel) rfl, iwX10⟩ -- between
theorem fgX10_98 : xFd RX10 98 9 0 := ⟨RX10, TX10, 38, rfl, by decide, rfl, xint 1014 (by decide +kernel) rfl, iwX10⟩ -- thrown
theorem fgX10_101 : xFd RX10 101 9 20 := ⟨RX10, TX10, 38, rfl, by decide, rfl, xint 1034 (by decide +kernel) rfl, iwX10⟩ -- refusedByHost
theorem fgX10_104 : xFd RX10 104 9 6 := ⟨RX10, TX10, 38, rfl, by decide, rfl, xint 1020 (by decide +kernel) rfl, iwX10⟩ -- doors
theorem fgX10_107 : xFd RX10 107 9 8 := ⟨RX10, TX10, 38, rfl, by decide, rfl, xint 1022 (by decide +kernel) rfl, iwX10⟩ -- things
theorem fgX10_110 : xFd RX10 110 9 10 := ⟨RX10, TX10, 38, rfl, by decide, rfl, xint 1024 (by decide +kernel) rfl, iwX10⟩ -- now
theorem fgX10_115 : xFd RX10 115 9 18 := ⟨RX10, TX10, 38, rfl, by decide, rfl, xint 1032 (by decide +kernel) rfl, iwX10⟩ -- letters
theorem fgX10_118 : xFd RX10 118 9 19 := ⟨RX10, TX10, 38, rfl, by decide, rfl, xint 1033 (by decide +kernel) rfl, iwX10⟩ -- refusedLetters
theorem fgX10_121 : xFd RX10 121 9 21 := ⟨RX10, TX10, 38, rfl, by decide, rfl, xint 1035 (by decide +kernel) rfl, iwX10⟩ -- backs
theorem fgX10_124 : xFd RX10 124 9 22 := ⟨RX10, TX10, 38, rfl, by decide, rfl, xint 1036 (by decide +kernel) rfl, iwX10⟩ -- backTicks
theorem fgX10_127 : xFd RX10 127 9 23 := ⟨RX10, TX10, 38, rfl, by decide, rfl, xint 1037 (by decide +kernel) rfl, iwX10⟩ -- backMost
theorem fgX10_130 : xFd RX10 130 9 24 := ⟨RX10, TX10, 38, rfl, by decide, rfl, xint 1038 (by decide +kernel) rfl, iwX10⟩ -- takenMany
theorem fgX2_9 : xFd RX2 9 1 4 := ⟨RX2, TX2, 6, rfl, by decide, rfl, xint 187 (by decide +kernel) rfl, iwX2⟩ -- notes
theorem fgX2_15 : xFd RX2 15 1 5 := ⟨RX2, TX2, 6, rfl, by decide, rfl, xint 189 (by decide +kernel) rfl, iwX2⟩ -- hitsAhead
theorem fgX2_18 : xFd RX2 18 1 0 := ⟨RX2, TX2, 6, rfl, by decide, rfl, xint 179 (by decide +kernel) rfl, iwX2⟩ -- goings
theorem fgX2_22 : xFd RX2 22 1 1 := ⟨RX2, TX2, 6, rfl, by decide, rfl, xint 181 (by decide +kernel) rfl, iwX2⟩ -- ticks
theorem fgX2_25 : xFd RX2 25 1 2 := ⟨RX2, TX2, 6, rfl, by decide, rfl, xint 183 (by decide +kernel) rfl, iwX2⟩ -- mostTicks
theorem fgX2_28 : xFd RX2 28 1 3 := ⟨RX2, TX2, 6, rfl, by decide, rfl, xint 185 (by decide +kernel) rfl, iwX2⟩ -- takenBack
theorem fgX3_9 : xFd RX3 9 2 0 := ⟨RX3, TX3, 3, rfl, by decide, rfl, xint 162 (by decide +kernel) rfl, iwX3⟩ -- codes
theorem fgX3_15 : xFd RX3 15 2 1 := ⟨RX3, TX3, 3, rfl, by decide, rfl, xint 163 (by decide +kernel) rfl, iwX3⟩ -- hits
theorem fgX3_19 : xFd RX3 19 2 2 := ⟨RX3, TX3, 3, rfl, by decide, rfl, xint 164 (by decide +kernel) rfl, iwX3⟩ -- lateMarks
theorem fgX4_9 : xFd RX4 9 3 0 := ⟨RX4, TX4, 4, rfl, by decide, rfl, xint 216 (by decide +kernel) rfl, iwX4⟩ -- row
theorem fgX4_22 : xFd RX4 22 3 1 := ⟨RX4, TX4, 4, rfl, by decide, rfl, xint 217 (by decide +kernel) rfl, iwX4⟩ -- trials
theorem fgX4_26 : xFd RX4 26 3 2 := ⟨RX4, TX4, 4, rfl, by decide, rfl, xint 219 (by decide +kernel) rfl, iwX4⟩ -- successes
theorem fgX4_29 : xFd RX4 29 3 3 := ⟨RX4, TX4, 4, rfl, by decide, rfl, xint 221 (by decide +kernel) rfl, iwX4⟩ -- toldMark
theorem fgX5_9 : xFd RX5 9 4 0 := ⟨RX5, TX5, 1, rfl, by decide, rfl, xint 152 (by decide +kernel) rfl, iwX5⟩ -- states
theorem fgX6_9 : xFd RX6 9 5 1 := ⟨RX6, TX6, 10, rfl, by decide, rfl, xint 104 (by decide +kernel) rfl, iwX6⟩ -- cell
theorem fgX6_15 : xFd RX6 15 5 2 := ⟨RX6, TX6, 10, rfl, by decide, rfl, xint 106 (by decide +kernel) rfl, iwX6⟩ -- life
theorem fgX6_18 : xFd RX6 18 5 3 := ⟨RX6, TX6, 10, rfl, by decide, rfl, xint 108 (by decide +kernel) rfl, iwX6⟩ -- bearer
theorem fgX6_21 : xFd RX6 21 5 4 := ⟨RX6, TX6, 10, rfl, by decide, rfl, xint 110 (by decide +kernel) rfl, iwX6⟩ -- face
theorem fgX6_24 : xFd RX6 24 5 5 := ⟨RX6, TX6, 10, rfl, by decide, rfl, xint 112 (by decide +kernel) rfl, iwX6⟩ -- rest
theorem fgX6_27 : xFd RX6 27 5 6 := ⟨RX6, TX6, 10, rfl, by decide, rfl, xint 114 (by decide +kernel) rfl, iwX6⟩ -- load
theorem fgX6_30 : xFd RX6 30 5 7 := ⟨RX6, TX6, 10, rfl, by decide, rfl, xint 116 (by decide +kernel) rfl, iwX6⟩ -- points
theorem fgX6_33 : xFd RX6 33 5 8 := ⟨RX6, TX6, 10, rfl, by decide, rfl, xint 118 (by decide +kernel) rfl, iwX6⟩ -- known
theorem fgX6_36 : xFd RX6 36 5 9 := ⟨RX6, TX6, 10, rfl, by decide, rfl, xint 120 (by decide +kernel) rfl, iwX6⟩ -- opened
theorem fgX6_39 : xFd RX6 39 5 0 := ⟨RX6, TX6, 10, rfl, by decide, rfl, xint 102 (by decide +kernel) rfl, iwX6⟩ -- ground
theorem fgX6_49 : xFd RX6 49 0 2 := ⟨RX1, TX1, 13, rfl, by decide, rfl, xint 40 (by decide +kernel) rfl, iwX1⟩ -- players
theorem fgX6_72 : xFd RX6 72 0 12 := ⟨RX1, TX1, 13, rfl, by decide, rfl, xint 66 (by decide +kernel) rfl, iwX1⟩ -- kinds
theorem fgX6_75 : xFd RX6 75 0 5 := ⟨RX1, TX1, 13, rfl, by decide, rfl, xint 50 (by decide +kernel) rfl, iwX1⟩ -- things
theorem fgX6_78 : xFd RX6 78 0 6 := ⟨RX1, TX1, 13, rfl, by decide, rfl, xint 54 (by decide +kernel) rfl, iwX1⟩ -- map
theorem fgX6_81 : xFd RX6 81 0 7 := ⟨RX1, TX1, 13, rfl, by decide, rfl, xint 57 (by decide +kernel) rfl, iwX1⟩ -- link
theorem fgX6_91 : xFd RX6 91 0 8 := ⟨RX1, TX1, 13, rfl, by decide, rfl, xint 59 (by decide +kernel) rfl, iwX1⟩ -- columnOf
theorem fgX6_94 : xFd RX6 94 0 9 := ⟨RX1, TX1, 13, rfl, by decide, rfl, xint 61 (by decide +kernel) rfl, iwX1⟩ -- rowOf
theorem fgX6_109 : xFd RX6 109 0 0 := ⟨RX1, TX1, 13, rfl, by decide, rfl, xint 35 (by decide +kernel) rfl, iwX1⟩ -- columns
theorem fgX6_129 : xFd RX6 129 0 3 := ⟨RX1, TX1, 13, rfl, by decide, rfl, xint 45 (by decide +kernel) rfl, iwX1⟩ -- cells
theorem fgX6_135 : xFd RX6 135 0 4 := ⟨RX1, TX1, 13, rfl, by decide, rfl, xint 48 (by decide +kernel) rfl, iwX1⟩ -- doors
theorem fgX6_169 : xFd RX6 169 0 11 := ⟨RX1, TX1, 13, rfl, by decide, rfl, xint 64 (by decide +kernel) rfl, iwX1⟩ -- words
theorem fgX7_12 : xFd RX7 12 6 0 := ⟨RX7, TX7, 6, rfl, by decide, rfl, xint 232 (by decide +kernel) rfl, iwX7⟩ -- foreseeing
theorem fgX7_18 : xFd RX7 18 6 1 := ⟨RX7, TX7, 6, rfl, by decide, rfl, xint 234 (by decide +kernel) rfl, iwX7⟩ -- machine
theorem fgX7_24 : xFd RX7 24 6 2 := ⟨RX7, TX7, 6, rfl, by decide, rfl, xint 236 (by decide +kernel) rfl, iwX7⟩ -- timelyHits
theorem fgX7_28 : xFd RX7 28 6 3 := ⟨RX7, TX7, 6, rfl, by decide, rfl, xint 238 (by decide +kernel) rfl, iwX7⟩ -- lateHits
theorem fgX7_31 : xFd RX7 31 6 4 := ⟨RX7, TX7, 6, rfl, by decide, rfl, xint 240 (by decide +kernel) rfl, iwX7⟩ -- lastTick
theorem fgX7_34 : xFd RX7 34 6 5 := ⟨RX7, TX7, 6, rfl, by decide, rfl, xint 241 (by decide +kernel) rfl, iwX7⟩ -- lastGap
theorem fgX8_9 : xFd RX8 9 7 3 := ⟨RX8, TX8, 5, rfl, by decide, rfl, xint 267 (by decide +kernel) rfl, iwX8⟩ -- row
theorem fgX8_15 : xFd RX8 15 7 4 := ⟨RX8, TX8, 5, rfl, by decide, rfl, xint 269 (by decide +kernel) rfl, iwX8⟩ -- tidings
theorem fgX8_19 : xFd RX8 19 7 0 := ⟨RX8, TX8, 5, rfl, by decide, rfl, xint 262 (by decide +kernel) rfl, iwX8⟩ -- sort
theorem fgX8_23 : xFd RX8 23 7 1 := ⟨RX8, TX8, 5, rfl, by decide, rfl, xint 264 (by decide +kernel) rfl, iwX8⟩ -- size
theorem fgX8_32 : xFd RX8 32 5 0 := ⟨RX6, TX6, 10, rfl, by decide, rfl, xint 103 (by decide +kernel) rfl, iwX6⟩ -- ground
theorem fgX8_38 : xFd RX8 38 0 3 := ⟨RX1, TX1, 13, rfl, by decide, rfl, xint 44 (by decide +kernel) rfl, iwX1⟩ -- cells
theorem fgX8_43 : xFd RX8 43 7 2 := ⟨RX8, TX8, 5, rfl, by decide, rfl, xint 265 (by decide +kernel) rfl, iwX8⟩ -- toldCells
theorem fgX9_10 : xFd RX9 10 8 0 := ⟨RX9, TX9, 15, rfl, by decide, rfl, xint 347 (by decide +kernel) rfl, iwX9⟩ -- ground
theorem fgX9_21 : xFd RX9 21 8 1 := ⟨RX9, TX9, 15, rfl, by decide, rfl, xint 348 (by decide +kernel) rfl, iwX9⟩ -- first
theorem fgX9_30 : xFd RX9 30 8 2 := ⟨RX9, TX9, 15, rfl, by decide, rfl, xint 349 (by decide +kernel) rfl, iwX9⟩ -- ring
theorem fgX9_34 : xFd RX9 34 8 3 := ⟨RX9, TX9, 15, rfl, by decide, rfl, xint 350 (by decide +kernel) rfl, iwX9⟩ -- lone
theorem fgX9_40 : xFd RX9 40 8 4 := ⟨RX9, TX9, 15, rfl, by decide, rfl, xint 351 (by decide +kernel) rfl, iwX9⟩ -- log
theorem fgX9_47 : xFd RX9 47 8 5 := ⟨RX9, TX9, 15, rfl, by decide, rfl, xint 352 (by decide +kernel) rfl, iwX9⟩ -- ledger
theorem fgX9_53 : xFd RX9 53 8 6 := ⟨RX9, TX9, 15, rfl, by decide, rfl, xint 353 (by decide +kernel) rfl, iwX9⟩ -- suspects
theorem fgX9_60 : xFd RX9 60 8 7 := ⟨RX9, TX9, 15, rfl, by decide, rfl, xint 354 (by decide +kernel) rfl, iwX9⟩ -- tapes
theorem fgX9_65 : xFd RX9 65 8 8 := ⟨RX9, TX9, 15, rfl, by decide, rfl, xint 355 (by decide +kernel) rfl, iwX9⟩ -- nextSeq
theorem fgX9_73 : xFd RX9 73 0 3 := ⟨RX1, TX1, 13, rfl, by decide, rfl, xint 43 (by decide +kernel) rfl, iwX1⟩ -- cells
theorem fgX9_98 : xFd RX9 98 8 9 := ⟨RX9, TX9, 15, rfl, by decide, rfl, xint 356 (by decide +kernel) rfl, iwX9⟩ -- now
theorem fgX9_101 : xFd RX9 101 8 10 := ⟨RX9, TX9, 15, rfl, by decide, rfl, xint 357 (by decide +kernel) rfl, iwX9⟩ -- lateness
theorem fgX9_104 : xFd RX9 104 8 11 := ⟨RX9, TX9, 15, rfl, by decide, rfl, xint 358 (by decide +kernel) rfl, iwX9⟩ -- riskParts
theorem fgX9_107 : xFd RX9 107 8 12 := ⟨RX9, TX9, 15, rfl, by decide, rfl, xint 359 (by decide +kernel) rfl, iwX9⟩ -- takenLetters
theorem fgX9_110 : xFd RX9 110 8 13 := ⟨RX9, TX9, 15, rfl, by decide, rfl, xint 360 (by decide +kernel) rfl, iwX9⟩ -- refusedLetters
theorem fgX9_113 : xFd RX9 113 8 14 := ⟨RX9, TX9, 15, rfl, by decide, rfl, xint 361 (by decide +kernel) rfl, iwX9⟩ -- hostRefusals
theorem fgX9_124 : xFd RX9 124 0 6 := ⟨RX1, TX1, 13, rfl, by decide, rfl, xint 53 (by decide +kernel) rfl, iwX1⟩ -- map
theorem fgX9_130 : xFd RX9 130 0 4 := ⟨RX1, TX1, 13, rfl, by decide, rfl, xint 47 (by decide +kernel) rfl, iwX1⟩ -- doors
theorem fgX9_140 : xFd RX9 140 0 7 := ⟨RX1, TX1, 13, rfl, by decide, rfl, xint 56 (by decide +kernel) rfl, iwX1⟩ -- link
theorem fgX9_150 : xFd RX9 150 0 5 := ⟨RX1, TX1, 13, rfl, by decide, rfl, xint 51 (by decide +kernel) rfl, iwX1⟩ -- things
theorem fgX9_219 : xFd RX9 219 5 2 := ⟨RX6, TX6, 10, rfl, by decide, rfl, xint 107 (by decide +kernel) rfl, iwX6⟩ -- life
theorem fgX9_226 : xFd RX9 226 0 2 := ⟨RX1, TX1, 13, rfl, by decide, rfl, xint 41 (by decide +kernel) rfl, iwX1⟩ -- players
theorem fgX9_249 : xFd RX9 249 6 0 := ⟨RX7, TX7, 6, rfl, by decide, rfl, xint 233 (by decide +kernel) rfl, iwX7⟩ -- foreseeing
theorem fgX9_275 : xFd RX9 275 5 1 := ⟨RX6, TX6, 10, rfl, by decide, rfl, xint 105 (by decide +kernel) rfl, iwX6⟩ -- cell
theorem fgX9_278 : xFd RX9 278 5 4 := ⟨RX6, TX6, 10, rfl, by decide, rfl, xint 111 (by decide +kernel) rfl, iwX6⟩ -- face
theorem fgX9_281 : xFd RX9 281 5 5 := ⟨RX6, TX6, 10, rfl, by decide, rfl, xint 113 (by decide +kernel) rfl, iwX6⟩ -- rest
theorem fgX9_284 : xFd RX9 284 5 6 := ⟨RX6, TX6, 10, rfl, by decide, rfl, xint 115 (by decide +kernel) rfl, iwX6⟩ -- load
theorem fgX9_287 : xFd RX9 287 5 7 := ⟨RX6, TX6, 10, rfl, by decide, rfl, xint 117 (by decide +kernel) rfl, iwX6⟩ -- points
theorem fgX9_290 : xFd RX9 290 5 8 := ⟨RX6, TX6, 10, rfl, by decide, rfl, xint 119 (by decide +kernel) rfl, iwX6⟩ -- known
theorem fgX9_293 : xFd RX9 293 0 12 := ⟨RX1, TX1, 13, rfl, by decide, rfl, xint 67 (by decide +kernel) rfl, iwX1⟩ -- kinds
theorem fgX9_296 : xFd RX9 296 5 3 := ⟨RX6, TX6, 10, rfl, by decide, rfl, xint 109 (by decide +kernel) rfl, iwX6⟩ -- bearer
theorem fgX9_299 : xFd RX9 299 5 9 := ⟨RX6, TX6, 10, rfl, by decide, rfl, xint 121 (by decide +kernel) rfl, iwX6⟩ -- opened
theorem fgX9_321 : xFd RX9 321 1 4 := ⟨RX2, TX2, 6, rfl, by decide, rfl, xint 188 (by decide +kernel) rfl, iwX2⟩ -- notes
theorem fgX9_324 : xFd RX9 324 1 0 := ⟨RX2, TX2, 6, rfl, by decide, rfl, xint 180 (by decide +kernel) rfl, iwX2⟩ -- goings
theorem fgX9_327 : xFd RX9 327 1 1 := ⟨RX2, TX2, 6, rfl, by decide, rfl, xint 182 (by decide +kernel) rfl, iwX2⟩ -- ticks
theorem fgX9_330 : xFd RX9 330 1 2 := ⟨RX2, TX2, 6, rfl, by decide, rfl, xint 184 (by decide +kernel) rfl, iwX2⟩ -- mostTicks
theorem fgX9_333 : xFd RX9 333 1 3 := ⟨RX2, TX2, 6, rfl, by decide, rfl, xint 186 (by decide +kernel) rfl, iwX2⟩ -- takenBack
theorem fgX9_336 : xFd RX9 336 6 1 := ⟨RX7, TX7, 6, rfl, by decide, rfl, xint 235 (by decide +kernel) rfl, iwX7⟩ -- machine
theorem fgX9_339 : xFd RX9 339 3 1 := ⟨RX4, TX4, 4, rfl, by decide, rfl, xint 218 (by decide +kernel) rfl, iwX4⟩ -- trials
theorem fgX9_342 : xFd RX9 342 3 2 := ⟨RX4, TX4, 4, rfl, by decide, rfl, xint 220 (by decide +kernel) rfl, iwX4⟩ -- successes
theorem fgX9_348 : xFd RX9 348 3 3 := ⟨RX4, TX4, 4, rfl, by decide, rfl, xint 222 (by decide +kernel) rfl, iwX4⟩ -- toldMark
theorem fgX9_351 : xFd RX9 351 6 3 := ⟨RX7, TX7, 6, rfl, by decide, rfl, xint 239 (by decide +kernel) rfl, iwX7⟩ -- lateHits
theorem fgX9_354 : xFd RX9 354 6 2 := ⟨RX7, TX7, 6, rfl, by decide, rfl, xint 237 (by decide +kernel) rfl, iwX7⟩ -- timelyHits
theorem fgX9_357 : xFd RX9 357 0 0 := ⟨RX1, TX1, 13, rfl, by decide, rfl, xint 36 (by decide +kernel) rfl, iwX1⟩ -- columns
theorem fgX9_360 : xFd RX9 360 0 1 := ⟨RX1, TX1, 13, rfl, by decide, rfl, xint 38 (by decide +kernel) rfl, iwX1⟩ -- rows
theorem fgX9_366 : xFd RX9 366 7 0 := ⟨RX8, TX8, 5, rfl, by decide, rfl, xint 263 (by decide +kernel) rfl, iwX8⟩ -- sort
theorem fgX9_379 : xFd RX9 379 7 2 := ⟨RX8, TX8, 5, rfl, by decide, rfl, xint 266 (by decide +kernel) rfl, iwX8⟩ -- toldCells
theorem fgX9_389 : xFd RX9 389 7 3 := ⟨RX8, TX8, 5, rfl, by decide, rfl, xint 268 (by decide +kernel) rfl, iwX8⟩ -- row
theorem fgX9_421 : xFd RX9 421 7 4 := ⟨RX8, TX8, 5, rfl, by decide, rfl, xint 270 (by decide +kernel) rfl, iwX8⟩ -- tidings
theorem fpX1_33 : xFp RX1 33 0 0 := ⟨RX1, TX1, 13, tyX1, rfl, by decide, rfl, xint 34 (by decide +kernel) rfl, iwX1, rfl, by decide +kernel, tyX1_ok, nmX1⟩ -- columns
theorem fpX1_37 : xFp RX1 37 0 1 := ⟨RX1, TX1, 13, tyX1, rfl, by decide, rfl, xint 37 (by decide +kernel) rfl, iwX1, rfl, by decide +kernel, tyX1_ok, nmX1⟩ -- rows
theorem fpX1_40 : xFp RX1 40 0 2 := ⟨RX1, TX1, 13, tyX1, rfl, by decide, rfl, xint 39 (by decide +kernel) rfl, iwX1, rfl, by decide +kernel, tyX1_ok, nmX1⟩ -- players
theorem fpX1_43 : xFp RX1 43 0 3 := ⟨RX1, TX1, 13, tyX1, rfl, by decide, rfl, xint 42 (by decide +kernel) rfl, iwX1, rfl, by decide +kernel, tyX1_ok, nmX1⟩ -- cells
theorem fpX1_46 : xFp RX1 46 0 4 := ⟨RX1, TX1, 13, tyX1, rfl, by decide, rfl, xint 46 (by decide +kernel) rfl, iwX1, rfl, by decide +kernel, tyX1_ok, nmX1⟩ -- doors
theorem fpX1_49 : xFp RX1 49 0 5 := ⟨RX1, TX1, 13, tyX1, rfl, by decide, rfl, xint 49 (by decide +kernel) rfl, iwX1, rfl, by decide +kernel, tyX1_ok, nmX1⟩ -- things
theorem fpX10_7 : xFp RX10 7 9 1 := ⟨RX10, TX10, 38, tyX10, rfl, by decide, rfl, xint 1015 (by decide +kernel) rfl, iwX10, rfl, by decide +kernel, tyX10_ok, nmX10⟩ -- w
theorem fpX10_13 : xFp RX10 13 9 2 := ⟨RX10, TX10, 38, tyX10, rfl, by decide, rfl, xint 1016 (by decide +kernel) rfl, iwX10, rfl, by decide +kernel, tyX10_ok, nmX10⟩ -- h
theorem fpX10_16 : xFp RX10 16 9 3 := ⟨RX10, TX10, 38, tyX10, rfl, by decide, rfl, xint 1017 (by decide +kernel) rfl, iwX10, rfl, by decide +kernel, tyX10_ok, nmX10⟩ -- players
theorem fpX10_32 : xFp RX10 32 9 11 := ⟨RX10, TX10, 38, tyX10, rfl, by decide, rfl, xint 1025 (by decide +kernel) rfl, iwX10, rfl, by decide +kernel, tyX10_ok, nmX10⟩ -- late
theorem fpX10_35 : xFp RX10 35 9 12 := ⟨RX10, TX10, 38, tyX10, rfl, by decide, rfl, xint 1026 (by decide +kernel) rfl, iwX10, rfl, by decide +kernel, tyX10_ok, nmX10⟩ -- risk
theorem fpX10_98 : xFp RX10 98 9 0 := ⟨RX10, TX10, 38, tyX10, rfl, by decide, rfl, xint 1014 (by decide +kernel) rfl, iwX10, rfl, by decide +kernel, tyX10_ok, nmX10⟩ -- thrown
theorem fpX10_101 : xFp RX10 101 9 20 := ⟨RX10, TX10, 38, tyX10, rfl, by decide, rfl, xint 1034 (by decide +kernel) rfl, iwX10, rfl, by decide +kernel, tyX10_ok, nmX10⟩ -- refusedByHost
theorem fpX10_104 : xFp RX10 104 9 6 := ⟨RX10, TX10, 38, tyX10, rfl, by decide, rfl, xint 1020 (by decide +kernel) rfl, iwX10, rfl, by decide +kernel, tyX10_ok, nmX10⟩ -- doors
theorem fpX10_107 : xFp RX10 107 9 8 := ⟨RX10, TX10, 38, tyX10, rfl, by decide, rfl, xint 1022 (by decide +kernel) rfl, iwX10, rfl, by decide +kernel, tyX10_ok, nmX10⟩ -- things
theorem fpX10_110 : xFp RX10 110 9 10 := ⟨RX10, TX10, 38, tyX10, rfl, by decide, rfl, xint 1024 (by decide +kernel) rfl, iwX10, rfl, by decide +kernel, tyX10_ok, nmX10⟩ -- now
theorem fpX10_115 : xFp RX10 115 9 18 := ⟨RX10, TX10, 38, tyX10, rfl, by decide, rfl, xint 1032 (by decide +kernel) rfl, iwX10, rfl, by decide +kernel, tyX10_ok, nmX10⟩ -- letters
theorem fpX10_118 : xFp RX10 118 9 19 := ⟨RX10, TX10, 38, tyX10, rfl, by decide, rfl, xint 1033 (by decide +kernel) rfl, iwX10, rfl, by decide +kernel, tyX10_ok, nmX10⟩ -- refusedLetters
theorem fpX10_121 : xFp RX10 121 9 21 := ⟨RX10, TX10, 38, tyX10, rfl, by decide, rfl, xint 1035 (by decide +kernel) rfl, iwX10, rfl, by decide +kernel, tyX10_ok, nmX10⟩ -- backs
theorem fpX10_124 : xFp RX10 124 9 22 := ⟨RX10, TX10, 38, tyX10, rfl, by decide, rfl, xint 1036 (by decide +kernel) rfl, iwX10, rfl, by decide +kernel, tyX10_ok, nmX10⟩ -- backTicks
theorem fpX10_127 : xFp RX10 127 9 23 := ⟨RX10, TX10, 38, tyX10, rfl, by decide, rfl, xint 1037 (by decide +kernel) rfl, iwX10, rfl, by decide +kernel, tyX10_ok, nmX10⟩ -- backMost
theorem fpX10_130 : xFp RX10 130 9 24 := ⟨RX10, TX10, 38, tyX10, rfl, by decide, rfl, xint 1038 (by decide +kernel) rfl, iwX10, rfl, by decide +kernel, tyX10_ok, nmX10⟩ -- takenMany
theorem fpX2_18 : xFp RX2 18 1 0 := ⟨RX2, TX2, 6, tyX2, rfl, by decide, rfl, xint 179 (by decide +kernel) rfl, iwX2, rfl, by decide +kernel, tyX2_ok, nmX2⟩ -- goings
theorem fpX2_22 : xFp RX2 22 1 1 := ⟨RX2, TX2, 6, tyX2, rfl, by decide, rfl, xint 181 (by decide +kernel) rfl, iwX2, rfl, by decide +kernel, tyX2_ok, nmX2⟩ -- ticks
theorem fpX2_25 : xFp RX2 25 1 2 := ⟨RX2, TX2, 6, tyX2, rfl, by decide, rfl, xint 183 (by decide +kernel) rfl, iwX2, rfl, by decide +kernel, tyX2_ok, nmX2⟩ -- mostTicks
theorem fpX2_28 : xFp RX2 28 1 3 := ⟨RX2, TX2, 6, tyX2, rfl, by decide, rfl, xint 185 (by decide +kernel) rfl, iwX2, rfl, by decide +kernel, tyX2_ok, nmX2⟩ -- takenBack
theorem fpX4_22 : xFp RX4 22 3 1 := ⟨RX4, TX4, 4, tyX4, rfl, by decide, rfl, xint 217 (by decide +kernel) rfl, iwX4, rfl, by decide +kernel, tyX4_ok, nmX4⟩ -- trials
theorem fpX4_26 : xFp RX4 26 3 2 := ⟨RX4, TX4, 4, tyX4, rfl, by decide, rfl, xint 219 (by decide +kernel) rfl, iwX4, rfl, by decide +kernel, tyX4_ok, nmX4⟩ -- successes
theorem fpX4_29 : xFp RX4 29 3 3 := ⟨RX4, TX4, 4, tyX4, rfl, by decide, rfl, xint 221 (by decide +kernel) rfl, iwX4, rfl, by decide +kernel, tyX4_ok, nmX4⟩ -- toldMark
theorem fpX7_24 : xFp RX7 24 6 2 := ⟨RX7, TX7, 6, tyX7, rfl, by decide, rfl, xint 236 (by decide +kernel) rfl, iwX7, rfl, by decide +kernel, tyX7_ok, nmX7⟩ -- timelyHits
theorem fpX7_28 : xFp RX7 28 6 3 := ⟨RX7, TX7, 6, tyX7, rfl, by decide, rfl, xint 238 (by decide +kernel) rfl, iwX7, rfl, by decide +kernel, tyX7_ok, nmX7⟩ -- lateHits
theorem fpX7_31 : xFp RX7 31 6 4 := ⟨RX7, TX7, 6, tyX7, rfl, by decide, rfl, xint 240 (by decide +kernel) rfl, iwX7, rfl, by decide +kernel, tyX7_ok, nmX7⟩ -- lastTick
theorem fpX7_34 : xFp RX7 34 6 5 := ⟨RX7, TX7, 6, tyX7, rfl, by decide, rfl, xint 241 (by decide +kernel) rfl, iwX7, rfl, by decide +kernel, tyX7_ok, nmX7⟩ -- lastGap
theorem fpX8_19 : xFp RX8 19 7 0 := ⟨RX8, TX8, 5, tyX8, rfl, by decide, rfl, xint 262 (by decide +kernel) rfl, iwX8, rfl, by decide +kernel, tyX8_ok, nmX8⟩ -- sort
theorem fpX8_23 : xFp RX8 23 7 1 := ⟨RX8, TX8, 5, tyX8, rfl, by decide, rfl, xint 264 (by decide +kernel) rfl, iwX8, rfl, by decide +kernel, tyX8_ok, nmX8⟩ -- size
theorem fpX8_43 : xFp RX8 43 7 2 := ⟨RX8, TX8, 5, tyX8, rfl, by decide, rfl, xint 265 (by decide +kernel) rfl, iwX8, rfl, by decide +kernel, tyX8_ok, nmX8⟩ -- toldCells
theorem fpX9_98 : xFp RX9 98 8 9 := ⟨RX9, TX9, 15, tyX9, rfl, by decide, rfl, xint 356 (by decide +kernel) rfl, iwX9, rfl, by decide +kernel, tyX9_ok, nmX9⟩ -- now
theorem fpX9_101 : xFp RX9 101 8 10 := ⟨RX9, TX9, 15, tyX9, rfl, by decide, rfl, xint 357 (by decide +kernel) rfl, iwX9, rfl, by decide +kernel, tyX9_ok, nmX9⟩ -- lateness
theorem fpX9_104 : xFp RX9 104 8 11 := ⟨RX9, TX9, 15, tyX9, rfl, by decide, rfl, xint 358 (by decide +kernel) rfl, iwX9, rfl, by decide +kernel, tyX9_ok, nmX9⟩ -- riskParts
theorem fpX9_107 : xFp RX9 107 8 12 := ⟨RX9, TX9, 15, tyX9, rfl, by decide, rfl, xint 359 (by decide +kernel) rfl, iwX9, rfl, by decide +kernel, tyX9_ok, nmX9⟩ -- takenLetters
theorem fpX9_110 : xFp RX9 110 8 13 := ⟨RX9, TX9, 15, tyX9, rfl, by decide, rfl, xint 360 (by decide +kernel) rfl, iwX9, rfl, by decide +kernel, tyX9_ok, nmX9⟩ -- refusedLetters
theorem fpX9_113 : xFp RX9 113 8 14 := ⟨RX9, TX9, 15, tyX9, rfl, by decide, rfl, xint 361 (by decide +kernel) rfl, iwX9, rfl, by decide +kernel, tyX9_ok, nmX9⟩ -- hostRefusals
theorem fpX9_366 : xFp RX9 366 7 0 := ⟨RX8, TX8, 5, tyX8, rfl, by decide, rfl, xint 263 (by decide +kernel) rfl, iwX8, rfl, by decide +kernel, tyX8_ok, nmX8⟩ -- sort
theorem kcX10_160 : Cond.constant RX10 160 (1048576) ∈ xtb := xint 1189 (by decide +kernel) rfl
theorem kcX10_232 : Cond.constant RX10 232 (65535) ∈ xtb := xint 1194 (by decide +kernel) rfl
theorem kcX4_21 : Cond.constant RX4 21 (1048576) ∈ xtb := xint 345 (by decide +kernel) rfl
theorem kcX6_158 : Cond.constant RX6 158 (1048576) ∈ xtb := xint 697 (by decide +kernel) rfl
theorem kcX6_168 : Cond.constant RX6 168 (65536) ∈ xtb := xint 723 (by decide +kernel) rfl
theorem kcX7_37 : Cond.constant RX7 37 (262144) ∈ xtb := xint 728 (by decide +kernel) rfl
theorem kcX9_159 : Cond.constant RX9 159 (1048576) ∈ xtb := xint 454 (by decide +kernel) rfl
theorem kcX9_160 : Cond.constant RX9 160 (65535) ∈ xtb := xint 459 (by decide +kernel) rfl
theorem kcX0_9 : Cond.constantLong RX0 9 (1023) ∈ xtb := xint 488 (by decide +kernel) rfl
theorem kcX0_11 : Cond.constantLong RX0 11 (65535) ∈ xtb := xint 501 (by decide +kernel) rfl
theorem kcX0_13 : Cond.constantLong RX0 13 (255) ∈ xtb := xint 505 (by decide +kernel) rfl
theorem kcX10_113 : Cond.constantLong RX10 113 (1048576) ∈ xtb := xint 1009 (by decide +kernel) rfl
theorem kcX10_264 : Cond.constantLong RX10 264 (262144) ∈ xtb := xint 1317 (by decide +kernel) rfl
theorem kcX10_270 : Cond.constantLong RX10 270 (65536) ∈ xtb := xint 1316 (by decide +kernel) rfl
theorem mlX0_15 : Cond.methodLink RX0 15 yX0_codeOf ∈ xtb := xint 485 (by decide +kernel) rfl
theorem mlX0_21 : Cond.methodLink RX0 21 yX0_kindOf ∈ xtb := xint 489 (by decide +kernel) rfl
theorem mlX0_25 : Cond.methodLink RX0 25 yX0_directionOf ∈ xtb := xint 492 (by decide +kernel) rfl
theorem mlX0_28 : Cond.methodLink RX0 28 yX0_wordOf ∈ xtb := xint 495 (by decide +kernel) rfl
theorem mlX0_31 : Cond.methodLink RX0 31 yX0_tickOf ∈ xtb := xint 498 (by decide +kernel) rfl
theorem mlX0_34 : Cond.methodLink RX0 34 yX0_seqOf ∈ xtb := xint 502 (by decide +kernel) rfl
theorem mlX0_37 : Cond.methodLink RX0 37 yX0_sumOf ∈ xtb := xint 506 (by decide +kernel) rfl
theorem mlX1_52 : Cond.methodLink RX1 52 yJ7_fill_53178 ∈ xtb := xint 291 (by decide +kernel) rfl
theorem mlX1_58 : Cond.methodLink RX1 58 yX1_layCell ∈ xtb := xint 294 (by decide +kernel) rfl
theorem mlX10_95 : Cond.methodLink RX10 95 yX10_fresh ∈ xtb := xint 1005 (by decide +kernel) rfl
theorem mlX10_133 : Cond.methodLink RX10 133 yX10_addThing ∈ xtb := xint 1010 (by decide +kernel) rfl
theorem mlX10_137 : Cond.methodLink RX10 137 yX10_in ∈ xtb := xint 1138 (by decide +kernel) rfl
theorem mlX10_141 : Cond.methodLink RX10 141 yX10_isCell ∈ xtb := xint 1145 (by decide +kernel) rfl
theorem mlX10_145 : Cond.methodLink RX10 145 yX10_isStarted ∈ xtb := xint 1149 (by decide +kernel) rfl
theorem mlX10_149 : Cond.methodLink RX10 149 yX10_hasThing ∈ xtb := xint 1153 (by decide +kernel) rfl
theorem mlX10_152 : Cond.methodLink RX10 152 yX10_learn ∈ xtb := xint 1165 (by decide +kernel) rfl
theorem mlX10_156 : Cond.methodLink RX10 156 yX10_standingIn ∈ xtb := xint 1177 (by decide +kernel) rfl
theorem mlX10_161 : Cond.methodLink RX10 161 yX10_stands ∈ xtb := xint 1169 (by decide +kernel) rfl
theorem mlX10_165 : Cond.methodLink RX10 165 yX10_isShut ∈ xtb := xint 1234 (by decide +kernel) rfl
theorem mlX10_168 : Cond.methodLink RX10 168 yX10_amount ∈ xtb := xint 1282 (by decide +kernel) rfl
theorem mlX10_172 : Cond.methodLink RX10 172 yX10_floorOf ∈ xtb := xint 1285 (by decide +kernel) rfl
theorem mlX10_175 : Cond.methodLink RX10 175 yX10_bars ∈ xtb := xint 1230 (by decide +kernel) rfl
theorem mlX10_178 : Cond.methodLink RX10 178 yX10_seesCell ∈ xtb := xint 1278 (by decide +kernel) rfl
theorem mlX10_182 : Cond.methodLink RX10 182 yX10_drop ∈ xtb := xint 1250 (by decide +kernel) rfl
theorem mlX10_185 : Cond.methodLink RX10 185 yX10_lies ∈ xtb := xint 1242 (by decide +kernel) rfl
theorem mlX10_188 : Cond.methodLink RX10 188 yX10_lose ∈ xtb := xint 1246 (by decide +kernel) rfl
theorem mlX10_192 : Cond.methodLink RX10 192 yX10_nextTo ∈ xtb := xint 1210 (by decide +kernel) rfl
theorem mlX10_195 : Cond.methodLink RX10 195 yX10_isFree ∈ xtb := xint 1226 (by decide +kernel) rfl
theorem mlX10_198 : Cond.methodLink RX10 198 yX10_goTo ∈ xtb := xint 1238 (by decide +kernel) rfl
theorem mlX10_201 : Cond.methodLink RX10 201 yX10_shoot ∈ xtb := xint 1254 (by decide +kernel) rfl
theorem mlX10_205 : Cond.methodLink RX10 205 yX10_take ∈ xtb := xint 1258 (by decide +kernel) rfl
theorem mlX10_208 : Cond.methodLink RX10 208 yX10_throwIt ∈ xtb := xint 1262 (by decide +kernel) rfl
theorem mlX10_211 : Cond.methodLink RX10 211 yX10_thingSees ∈ xtb := xint 1274 (by decide +kernel) rfl
theorem mlX10_214 : Cond.methodLink RX10 214 yX10_far ∈ xtb := xint 1288 (by decide +kernel) rfl
theorem mlX10_217 : Cond.methodLink RX10 217 yX10_prey ∈ xtb := xint 1270 (by decide +kernel) rfl
theorem mlX10_220 : Cond.methodLink RX10 220 yX10_does ∈ xtb := xint 1222 (by decide +kernel) rfl
theorem mlX10_223 : Cond.methodLink RX10 223 yX10_hunt ∈ xtb := xint 1266 (by decide +kernel) rfl
theorem mlX10_226 : Cond.methodLink RX10 226 yX10_mapTold ∈ xtb := xint 1354 (by decide +kernel) rfl
theorem mlX10_229 : Cond.methodLink RX10 229 yX10_isTold ∈ xtb := xint 1350 (by decide +kernel) rfl
theorem mlX10_233 : Cond.methodLink RX10 233 yX10_part ∈ xtb := xint 1203 (by decide +kernel) rfl
theorem mlX10_237 : Cond.methodLink RX10 237 yX10_isCrafted ∈ xtb := xint 1206 (by decide +kernel) rfl
theorem mlX10_240 : Cond.methodLink RX10 240 yX10_work ∈ xtb := xint 1218 (by decide +kernel) rfl
theorem mlX10_243 : Cond.methodLink RX10 243 yX10_lack ∈ xtb := xint 1199 (by decide +kernel) rfl
theorem mlX10_247 : Cond.methodLink RX10 247 yX10_goBack ∈ xtb := xint 1214 (by decide +kernel) rfl
theorem mlX10_250 : Cond.methodLink RX10 250 yX10_look ∈ xtb := xint 1296 (by decide +kernel) rfl
theorem mlX10_253 : Cond.methodLink RX10 253 yX10_tailOf ∈ xtb := xint 1308 (by decide +kernel) rfl
theorem mlX10_257 : Cond.methodLink RX10 257 yX10_foresee ∈ xtb := xint 1300 (by decide +kernel) rfl
theorem mlX10_261 : Cond.methodLink RX10 261 yX10_guess ∈ xtb := xint 1312 (by decide +kernel) rfl
theorem mlX10_266 : Cond.methodLink RX10 266 yX10_tried ∈ xtb := xint 1304 (by decide +kernel) rfl
theorem mlX10_272 : Cond.methodLink RX10 272 yX10_isPlayer ∈ xtb := xint 1322 (by decide +kernel) rfl
theorem mlX10_275 : Cond.methodLink RX10 275 yX10_seesNow ∈ xtb := xint 1338 (by decide +kernel) rfl
theorem mlX10_278 : Cond.methodLink RX10 278 yX10_toldOf ∈ xtb := xint 1346 (by decide +kernel) rfl
theorem mlX10_281 : Cond.methodLink RX10 281 yX10_isNear ∈ xtb := xint 1362 (by decide +kernel) rfl
theorem mlX10_284 : Cond.methodLink RX10 284 yX10_letterOf ∈ xtb := xint 1366 (by decide +kernel) rfl
theorem mlX10_287 : Cond.methodLink RX10 287 yX10_digestOf ∈ xtb := xint 1374 (by decide +kernel) rfl
theorem mlX10_290 : Cond.methodLink RX10 290 yX10_isTape ∈ xtb := xint 1414 (by decide +kernel) rfl
theorem mlX10_293 : Cond.methodLink RX10 293 yX10_host ∈ xtb := xint 1417 (by decide +kernel) rfl
theorem mlX10_296 : Cond.methodLink RX10 296 yX10_narrow ∈ xtb := xint 1433 (by decide +kernel) rfl
theorem mlX10_300 : Cond.methodLink RX10 300 yX10_feed ∈ xtb := xint 1448 (by decide +kernel) rfl
theorem mlX2_31 : Cond.methodLink RX2 31 yX3_hitOf ∈ xtb := xint 547 (by decide +kernel) rfl
theorem mlX2_37 : Cond.methodLink RX2 37 yJ9_max_7cf53 ∈ xtb := xint 657 (by decide +kernel) rfl
theorem mlX2_42 : Cond.methodLink RX2 42 yX2_noteTakenBack ∈ xtb := xint 658 (by decide +kernel) rfl
theorem mlX3_22 : Cond.methodLink RX3 22 yJ7_fill_53178 ∈ xtb := xint 328 (by decide +kernel) rfl
theorem mlX3_28 : Cond.methodLink RX3 28 yJ7_fill_031fb ∈ xtb := xint 329 (by decide +kernel) rfl
theorem mlX4_15 : Cond.methodLink RX4 15 yJ7_fill_53178 ∈ xtb := xint 344 (by decide +kernel) rfl
theorem mlX4_32 : Cond.methodLink RX4 32 yX4_spread ∈ xtb := xint 709 (by decide +kernel) rfl
theorem mlX4_36 : Cond.methodLink RX4 36 yX4_tail ∈ xtb := xint 713 (by decide +kernel) rfl
theorem mlX5_18 : Cond.methodLink RX5 18 yX6_copyFrom ∈ xtb := xint 317 (by decide +kernel) rfl
theorem mlX5_22 : Cond.methodLink RX5 22 yX5_stateAt ∈ xtb := xint 555 (by decide +kernel) rfl
theorem mlX5_26 : Cond.methodLink RX5 26 yX6_moveBodies ∈ xtb := xint 556 (by decide +kernel) rfl
theorem mlX5_30 : Cond.methodLink RX5 30 yX6_moveBeasts ∈ xtb := xint 611 (by decide +kernel) rfl
theorem mlX5_33 : Cond.methodLink RX5 33 yX6_endTick ∈ xtb := xint 648 (by decide +kernel) rfl
theorem mlX6_43 : Cond.methodLink RX6 43 yJ7_fill_53178 ∈ xtb := xint 302 (by decide +kernel) rfl
theorem mlX6_55 : Cond.methodLink RX6 55 yX1_firstCellOf ∈ xtb := xint 303 (by decide +kernel) rfl
theorem mlX6_59 : Cond.methodLink RX6 59 yX6_putNew ∈ xtb := xint 307 (by decide +kernel) rfl
theorem mlX6_84 : Cond.methodLink RX6 84 yX6_bars ∈ xtb := xint 569 (by decide +kernel) rfl
theorem mlX6_88 : Cond.methodLink RX6 88 yX6_standingIn ∈ xtb := xint 573 (by decide +kernel) rfl
theorem mlX6_97 : Cond.methodLink RX6 97 yJ9_abs_0f7a4 ∈ xtb := xint 623 (by decide +kernel) rfl
theorem mlX6_102 : Cond.methodLink RX6 102 yJ9_max_7cf53 ∈ xtb := xint 626 (by decide +kernel) rfl
theorem mlX6_106 : Cond.methodLink RX6 106 yJ9_floorDiv_7cf53 ∈ xtb := xint 629 (by decide +kernel) rfl
theorem mlX6_112 : Cond.methodLink RX6 112 yX6_carries ∈ xtb := xint 535 (by decide +kernel) rfl
theorem mlX6_116 : Cond.methodLink RX6 116 yX6_reaches ∈ xtb := xint 619 (by decide +kernel) rfl
theorem mlX6_120 : Cond.methodLink RX6 120 yX6_spots ∈ xtb := xint 689 (by decide +kernel) rfl
theorem mlX6_123 : Cond.methodLink RX6 123 yX6_looksOf ∈ xtb := xint 755 (by decide +kernel) rfl
theorem mlX6_126 : Cond.methodLink RX6 126 yX6_standsOrLiesIn ∈ xtb := xint 759 (by decide +kernel) rfl
theorem mlX6_132 : Cond.methodLink RX6 132 yX6_addThingsIn ∈ xtb := xint 775 (by decide +kernel) rfl
theorem mlX6_138 : Cond.methodLink RX6 138 yX0_kindOf ∈ xtb := xint 525 (by decide +kernel) rfl
theorem mlX6_143 : Cond.methodLink RX6 143 yX0_directionOf ∈ xtb := xint 526 (by decide +kernel) rfl
theorem mlX6_146 : Cond.methodLink RX6 146 yX1_nextTo ∈ xtb := xint 527 (by decide +kernel) rfl
theorem mlX6_149 : Cond.methodLink RX6 149 yX6_isDoor ∈ xtb := xint 531 (by decide +kernel) rfl
theorem mlX6_152 : Cond.methodLink RX6 152 yX6_unseenInLine ∈ xtb := xint 685 (by decide +kernel) rfl
theorem mlX6_155 : Cond.methodLink RX6 155 yX6_darkCells ∈ xtb := xint 693 (by decide +kernel) rfl
theorem mlX6_159 : Cond.methodLink RX6 159 yX6_hiddenThings ∈ xtb := xint 698 (by decide +kernel) rfl
theorem mlX6_162 : Cond.methodLink RX6 162 yJ9_min_7cf53 ∈ xtb := xint 702 (by decide +kernel) rfl
theorem mlX6_165 : Cond.methodLink RX6 165 yX6_isShutDoor ∈ xtb := xint 595 (by decide +kernel) rfl
theorem mlX6_172 : Cond.methodLink RX6 172 yX3_codeOf ∈ xtb := xint 560 (by decide +kernel) rfl
theorem mlX6_177 : Cond.methodLink RX6 177 yX6_enterIfFree ∈ xtb := xint 561 (by decide +kernel) rfl
theorem mlX6_181 : Cond.methodLink RX6 181 yX6_shoot ∈ xtb := xint 582 (by decide +kernel) rfl
theorem mlX6_184 : Cond.methodLink RX6 184 yX0_wordOf ∈ xtb := xint 586 (by decide +kernel) rfl
theorem mlX6_187 : Cond.methodLink RX6 187 yX6_tryWord ∈ xtb := xint 587 (by decide +kernel) rfl
theorem mlX6_190 : Cond.methodLink RX6 190 yX6_pickUp ∈ xtb := xint 599 (by decide +kernel) rfl
theorem mlX6_194 : Cond.methodLink RX6 194 yX6_letGo ∈ xtb := xint 578 (by decide +kernel) rfl
theorem mlX6_197 : Cond.methodLink RX6 197 yX6_hurl ∈ xtb := xint 603 (by decide +kernel) rfl
theorem mlX6_200 : Cond.methodLink RX6 200 yX3_noteHit ∈ xtb := xint 607 (by decide +kernel) rfl
theorem mlX6_203 : Cond.methodLink RX6 203 yX6_hurt ∈ xtb := xint 574 (by decide +kernel) rfl
theorem mlX6_206 : Cond.methodLink RX6 206 yX6_isWordNext ∈ xtb := xint 591 (by decide +kernel) rfl
theorem mlX6_209 : Cond.methodLink RX6 209 yX6_isFree ∈ xtb := xint 565 (by decide +kernel) rfl
theorem mlX6_212 : Cond.methodLink RX6 212 yX6_nearestTo ∈ xtb := xint 615 (by decide +kernel) rfl
theorem mlX6_215 : Cond.methodLink RX6 215 yX6_distance ∈ xtb := xint 632 (by decide +kernel) rfl
theorem mlX6_218 : Cond.methodLink RX6 218 yX6_cellTowards ∈ xtb := xint 644 (by decide +kernel) rfl
theorem mlX6_221 : Cond.methodLink RX6 221 yX6_columnsBetween ∈ xtb := xint 636 (by decide +kernel) rfl
theorem mlX6_224 : Cond.methodLink RX6 224 yX6_rowsBetween ∈ xtb := xint 640 (by decide +kernel) rfl
theorem mlX6_227 : Cond.methodLink RX6 227 yX6_readPlates ∈ xtb := xint 652 (by decide +kernel) rfl
theorem mlX7_21 : Cond.methodLink RX7 21 yX4_wipe ∈ xtb := xint 340 (by decide +kernel) rfl
theorem mlX7_38 : Cond.methodLink RX7 38 yX4_addTrial ∈ xtb := xint 729 (by decide +kernel) rfl
theorem mlX8_26 : Cond.methodLink RX8 26 yJ7_fill_d0a16 ∈ xtb := xint 843 (by decide +kernel) rfl
theorem mlX8_46 : Cond.methodLink RX8 46 yX6_tellOf ∈ xtb := xint 854 (by decide +kernel) rfl
theorem mlX9_69 : Cond.methodLink RX9 69 yX9_startAnew ∈ xtb := xint 283 (by decide +kernel) rfl
theorem mlX9_77 : Cond.methodLink RX9 77 yX1_lay ∈ xtb := xint 287 (by decide +kernel) rfl
theorem mlX9_80 : Cond.methodLink RX9 80 yX6_arrange ∈ xtb := xint 298 (by decide +kernel) rfl
theorem mlX9_83 : Cond.methodLink RX9 83 yX5_restart ∈ xtb := xint 313 (by decide +kernel) rfl
theorem mlX9_87 : Cond.methodLink RX9 87 yX3_wipe ∈ xtb := xint 324 (by decide +kernel) rfl
theorem mlX9_90 : Cond.methodLink RX9 90 yX2_wipe ∈ xtb := xint 332 (by decide +kernel) rfl
theorem mlX9_91 : Cond.methodLink RX9 91 yX7_wipe ∈ xtb := xint 336 (by decide +kernel) rfl
theorem mlX9_92 : Cond.methodLink RX9 92 yJ7_fill_53178 ∈ xtb := xint 346 (by decide +kernel) rfl
theorem mlX9_116 : Cond.methodLink RX9 116 yX1_hasCell ∈ xtb := xint 401 (by decide +kernel) rfl
theorem mlX9_120 : Cond.methodLink RX9 120 yX9_hasStarted ∈ xtb := xint 405 (by decide +kernel) rfl
theorem mlX9_127 : Cond.methodLink RX9 127 yX6_holdsThing ∈ xtb := xint 409 (by decide +kernel) rfl
theorem mlX9_133 : Cond.methodLink RX9 133 yX1_addDoor ∈ xtb := xint 417 (by decide +kernel) rfl
theorem mlX9_137 : Cond.methodLink RX9 137 yX1_hasDoor ∈ xtb := xint 425 (by decide +kernel) rfl
theorem mlX9_143 : Cond.methodLink RX9 143 yX6_readPlates ∈ xtb := xint 429 (by decide +kernel) rfl
theorem mlX9_146 : Cond.methodLink RX9 146 yX6_standingIn ∈ xtb := xint 437 (by decide +kernel) rfl
theorem mlX9_153 : Cond.methodLink RX9 153 yX1_addThing ∈ xtb := xint 441 (by decide +kernel) rfl
theorem mlX9_156 : Cond.methodLink RX9 156 yX6_putNew ∈ xtb := xint 445 (by decide +kernel) rfl
theorem mlX9_161 : Cond.methodLink RX9 161 yX0_sumOf ∈ xtb := xint 460 (by decide +kernel) rfl
theorem mlX9_167 : Cond.methodLink RX9 167 yX0_join ∈ xtb := xint 463 (by decide +kernel) rfl
theorem mlX9_171 : Cond.methodLink RX9 171 yX9_receive ∈ xtb := xint 470 (by decide +kernel) rfl
theorem mlX9_175 : Cond.methodLink RX9 175 yX9_refusalOf ∈ xtb := xint 474 (by decide +kernel) rfl
theorem mlX9_178 : Cond.methodLink RX9 178 yX0_tickOf ∈ xtb := xint 511 (by decide +kernel) rfl
theorem mlX9_182 : Cond.methodLink RX9 182 yX0_codeOf ∈ xtb := xint 520 (by decide +kernel) rfl
theorem mlX9_185 : Cond.methodLink RX9 185 yX3_noteAct ∈ xtb := xint 539 (by decide +kernel) rfl
theorem mlX9_189 : Cond.methodLink RX9 189 yX2_keepHits ∈ xtb := xint 543 (by decide +kernel) rfl
theorem mlX9_193 : Cond.methodLink RX9 193 yX5_work ∈ xtb := xint 551 (by decide +kernel) rfl
theorem mlX9_197 : Cond.methodLink RX9 197 yX2_noteGoingBack ∈ xtb := xint 653 (by decide +kernel) rfl
theorem mlX9_200 : Cond.methodLink RX9 200 yX1_hasPlayer ∈ xtb := xint 478 (by decide +kernel) rfl
theorem mlX9_203 : Cond.methodLink RX9 203 yX0_areWhole ∈ xtb := xint 482 (by decide +kernel) rfl
theorem mlX9_207 : Cond.methodLink RX9 207 yX0_areOfAKind ∈ xtb := xint 507 (by decide +kernel) rfl
theorem mlX9_210 : Cond.methodLink RX9 210 yX0_seqOf ∈ xtb := xint 510 (by decide +kernel) rfl
theorem mlX9_213 : Cond.methodLink RX9 213 yX3_codeOf ∈ xtb := xint 512 (by decide +kernel) rfl
theorem mlX9_215 : Cond.methodLink RX9 215 yX5_stateAt ∈ xtb := xint 516 (by decide +kernel) rfl
theorem mlX9_222 : Cond.methodLink RX9 222 yX6_forbids ∈ xtb := xint 521 (by decide +kernel) rfl
theorem mlX9_229 : Cond.methodLink RX9 229 yX9_lookAt ∈ xtb := xint 666 (by decide +kernel) rfl
theorem mlX9_233 : Cond.methodLink RX9 233 yX0_kindOf ∈ xtb := xint 670 (by decide +kernel) rfl
theorem mlX9_236 : Cond.methodLink RX9 236 yX0_directionOf ∈ xtb := xint 671 (by decide +kernel) rfl
theorem mlX9_239 : Cond.methodLink RX9 239 yX3_hitOf ∈ xtb := xint 672 (by decide +kernel) rfl
theorem mlX9_242 : Cond.methodLink RX9 242 yX3_isLate ∈ xtb := xint 673 (by decide +kernel) rfl
theorem mlX9_245 : Cond.methodLink RX9 245 yX7_countHit ∈ xtb := xint 677 (by decide +kernel) rfl
theorem mlX9_253 : Cond.methodLink RX9 253 yX6_shotChance ∈ xtb := xint 681 (by decide +kernel) rfl
theorem mlX9_256 : Cond.methodLink RX9 256 yX4_addTrial ∈ xtb := xint 705 (by decide +kernel) rfl
theorem mlX9_262 : Cond.methodLink RX9 262 yX0_wordOf ∈ xtb := xint 717 (by decide +kernel) rfl
theorem mlX9_265 : Cond.methodLink RX9 265 yX6_isWordNext ∈ xtb := xint 718 (by decide +kernel) rfl
theorem mlX9_269 : Cond.methodLink RX9 269 yX6_wordChance ∈ xtb := xint 719 (by decide +kernel) rfl
theorem mlX9_272 : Cond.methodLink RX9 272 yX7_lookAtGap ∈ xtb := xint 724 (by decide +kernel) rfl
theorem mlX9_302 : Cond.methodLink RX9 302 yX6_spots ∈ xtb := xint 746 (by decide +kernel) rfl
theorem mlX9_305 : Cond.methodLink RX9 305 yX6_tellOf ∈ xtb := xint 751 (by decide +kernel) rfl
theorem mlX9_308 : Cond.methodLink RX9 308 yX9_remembers ∈ xtb := xint 767 (by decide +kernel) rfl
theorem mlX9_311 : Cond.methodLink RX9 311 yX6_letterTo ∈ xtb := xint 771 (by decide +kernel) rfl
theorem mlX9_314 : Cond.methodLink RX9 314 yX6_sumUp ∈ xtb := xint 783 (by decide +kernel) rfl
theorem mlX9_318 : Cond.methodLink RX9 318 yX2_noted ∈ xtb := xint 807 (by decide +kernel) rfl
theorem mlX9_345 : Cond.methodLink RX9 345 yX4_tail ∈ xtb := xint 819 (by decide +kernel) rfl
theorem mlX9_363 : Cond.methodLink RX9 363 yX9_isTape ∈ xtb := xint 832 (by decide +kernel) rfl
theorem mlX9_369 : Cond.methodLink RX9 369 yX9_refuse ∈ xtb := xint 835 (by decide +kernel) rfl
theorem mlX9_372 : Cond.methodLink RX9 372 yX8_holdRow ∈ xtb := xint 839 (by decide +kernel) rfl
theorem mlX9_375 : Cond.methodLink RX9 375 yX8_holdView ∈ xtb := xint 850 (by decide +kernel) rfl
theorem mlX9_382 : Cond.methodLink RX9 382 yX9_refuseBut ∈ xtb := xint 863 (by decide +kernel) rfl
theorem mlX9_386 : Cond.methodLink RX9 386 yX8_hasPlace ∈ xtb := xint 867 (by decide +kernel) rfl
theorem mlX9_393 : Cond.methodLink RX9 393 yX8_narrowed ∈ xtb := xint 871 (by decide +kernel) rfl
theorem mlX9_404 : Cond.methodLink RX9 404 yX8_isRow ∈ xtb := xint 879 (by decide +kernel) rfl
theorem mlX9_412 : Cond.methodLink RX9 412 yX8_hasPlaces ∈ xtb := xint 883 (by decide +kernel) rfl
theorem xnat : Cond.native arraycopyName ∈ xtb ∧ Cond.static arraycopyName ∈ xtb ∧ Cond.initialized "java/lang/System" ∈ xtb := ⟨xint 323 (by decide +kernel) rfl, xint 322 (by decide +kernel) rfl, xint 11 (by decide +kernel) rfl⟩
theorem mlX6_66 : Cond.methodLink RX6 66 arraycopyName ∈ xtb := xint 321 (by decide +kernel) rfl
theorem mlX9_415 : Cond.methodLink RX9 415 arraycopyName ∈ xtb := xint 887 (by decide +kernel) rfl
theorem zX0_join : xZs mX0_join 3 := ⟨plainFor_of_name (by decide +kernel), ⟨by decide +kernel, by decide +kernel, by decide +kernel⟩, xinm (List.mem_append_right _ (List.mem_append_left _ (List.mem_of_getElem? (l := tables_1_2) (i := 225) rfl))) rfl, xint 13 (by decide +kernel) rfl, xint 464 (by decide +kernel) rfl⟩
theorem zX0_sumOf : xZs mX0_sumOf 5 := ⟨plainFor_of_name (by decide +kernel), ⟨by decide +kernel, by decide +kernel, by decide +kernel⟩, xinm (List.mem_append_right _ (List.mem_append_left _ (List.mem_of_getElem? (l := tables_1_2) (i := 222) rfl))) rfl, xint 13 (by decide +kernel) rfl, xint 461 (by decide +kernel) rfl⟩
theorem zX0_codeOf : xZs mX0_codeOf 1 := ⟨plainFor_of_name (by decide +kernel), ⟨by decide +kernel, by decide +kernel, by decide +kernel⟩, xinm (List.mem_append_right _ (List.mem_append_right _ (List.mem_append_left _ (List.mem_of_getElem? (l := tables_1_3) (i := 7) rfl)))) rfl, xint 13 (by decide +kernel) rfl, xint 486 (by decide +kernel) rfl⟩
theorem zX0_kindOf : xZs mX0_kindOf 1 := ⟨plainFor_of_name (by decide +kernel), ⟨by decide +kernel, by decide +kernel, by decide +kernel⟩, xinm (List.mem_append_right _ (List.mem_append_right _ (List.mem_append_left _ (List.mem_of_getElem? (l := tables_1_3) (i := 11) rfl)))) rfl, xint 13 (by decide +kernel) rfl, xint 490 (by decide +kernel) rfl⟩
theorem zX0_directionOf : xZs mX0_directionOf 1 := ⟨plainFor_of_name (by decide +kernel), ⟨by decide +kernel, by decide +kernel, by decide +kernel⟩, xinm (List.mem_append_right _ (List.mem_append_right _ (List.mem_append_left _ (List.mem_of_getElem? (l := tables_1_3) (i := 14) rfl)))) rfl, xint 13 (by decide +kernel) rfl, xint 493 (by decide +kernel) rfl⟩
theorem zX0_wordOf : xZs mX0_wordOf 1 := ⟨plainFor_of_name (by decide +kernel), ⟨by decide +kernel, by decide +kernel, by decide +kernel⟩, xinm (List.mem_append_right _ (List.mem_append_right _ (List.mem_append_left _ (List.mem_of_getElem? (l := tables_1_3) (i := 17) rfl)))) rfl, xint 13 (by decide +kernel) rfl, xint 496 (by decide +kernel) rfl⟩
theorem zX0_tickOf : xZs mX0_tickOf 1 := ⟨plainFor_of_name (by decide +kernel), ⟨by decide +kernel, by decide +kernel, by decide +kernel⟩, xinm (List.mem_append_right _ (List.mem_append_right _ (List.mem_append_left _ (List.mem_of_getElem? (l := tables_1_3) (i := 20) rfl)))) rfl, xint 13 (by decide +kernel) rfl, xint 499 (by decide +kernel) rfl⟩
theorem zX0_seqOf : xZs mX0_seqOf 1 := ⟨plainFor_of_name (by decide +kernel), ⟨by decide +kernel, by decide +kernel, by decide +kernel⟩, xinm (List.mem_append_right _ (List.mem_append_right _ (List.mem_append_left _ (List.mem_of_getElem? (l := tables_1_3) (i := 24) rfl)))) rfl, xint 13 (by decide +kernel) rfl, xint 503 (by decide +kernel) rfl⟩
theorem zX0_areWhole : xZs mX0_areWhole 1 := ⟨plainFor_of_name (by decide +kernel), ⟨by decide +kernel, by decide +kernel, by decide +kernel⟩, xinm (List.mem_append_right _ (List.mem_append_right _ (List.mem_append_left _ (List.mem_of_getElem? (l := tables_1_3) (i := 4) rfl)))) rfl, xint 13 (by decide +kernel) rfl, xint 483 (by decide +kernel) rfl⟩
theorem zX0_areOfAKind : xZs mX0_areOfAKind 1 := ⟨plainFor_of_name (by decide +kernel), ⟨by decide +kernel, by decide +kernel, by decide +kernel⟩, xinm (List.mem_append_right _ (List.mem_append_right _ (List.mem_append_left _ (List.mem_of_getElem? (l := tables_1_3) (i := 29) rfl)))) rfl, xint 13 (by decide +kernel) rfl, xint 508 (by decide +kernel) rfl⟩
theorem zX1_lay : xZv mX1_lay 3 := ⟨plainFor_of_name (by decide +kernel), ⟨by decide +kernel, by decide +kernel, by decide +kernel⟩, xinm (List.mem_append_right _ (List.mem_append_left _ (List.mem_of_getElem? (l := tables_1_2) (i := 50) rfl))) rfl, xint 2 (by decide +kernel) rfl, xint 288 (by decide +kernel) rfl, xint 289 (by decide +kernel) rfl⟩
theorem zX1_layCell : xZv mX1_layCell 2 := ⟨plainFor_of_name (by decide +kernel), ⟨by decide +kernel, by decide +kernel, by decide +kernel⟩, xinm (List.mem_append_right _ (List.mem_append_left _ (List.mem_of_getElem? (l := tables_1_2) (i := 57) rfl))) rfl, xint 2 (by decide +kernel) rfl, xint 296 (by decide +kernel) rfl, xins 1 (by decide +kernel) rfl⟩
theorem zX1_addDoor : xZv mX1_addDoor 2 := ⟨plainFor_of_name (by decide +kernel), ⟨by decide +kernel, by decide +kernel, by decide +kernel⟩, xinm (List.mem_append_right _ (List.mem_append_left _ (List.mem_of_getElem? (l := tables_1_2) (i := 180) rfl))) rfl, xint 2 (by decide +kernel) rfl, xint 418 (by decide +kernel) rfl, xint 419 (by decide +kernel) rfl⟩
theorem zX1_addThing : xZv mX1_addThing 1 := ⟨plainFor_of_name (by decide +kernel), ⟨by decide +kernel, by decide +kernel, by decide +kernel⟩, xinm (List.mem_append_right _ (List.mem_append_left _ (List.mem_of_getElem? (l := tables_1_2) (i := 204) rfl))) rfl, xint 2 (by decide +kernel) rfl, xint 442 (by decide +kernel) rfl, xint 443 (by decide +kernel) rfl⟩
theorem zX1_hasCell : xZv mX1_hasCell 1 := ⟨plainFor_of_name (by decide +kernel), ⟨by decide +kernel, by decide +kernel, by decide +kernel⟩, xinm (List.mem_append_right _ (List.mem_append_left _ (List.mem_of_getElem? (l := tables_1_2) (i := 164) rfl))) rfl, xint 2 (by decide +kernel) rfl, xint 402 (by decide +kernel) rfl, xint 403 (by decide +kernel) rfl⟩
theorem zX1_hasDoor : xZv mX1_hasDoor 1 := ⟨plainFor_of_name (by decide +kernel), ⟨by decide +kernel, by decide +kernel, by decide +kernel⟩, xinm (List.mem_append_right _ (List.mem_append_left _ (List.mem_of_getElem? (l := tables_1_2) (i := 188) rfl))) rfl, xint 2 (by decide +kernel) rfl, xint 426 (by decide +kernel) rfl, xint 427 (by decide +kernel) rfl⟩
theorem zX1_hasPlayer : xZv mX1_hasPlayer 1 := ⟨plainFor_of_name (by decide +kernel), ⟨by decide +kernel, by decide +kernel, by decide +kernel⟩, xinm (List.mem_append_right _ (List.mem_append_right _ (List.mem_append_left _ (List.mem_of_getElem? (l := tables_1_3) (i := 1) rfl)))) rfl, xint 2 (by decide +kernel) rfl, xint 479 (by decide +kernel) rfl, xint 480 (by decide +kernel) rfl⟩
theorem zX1_firstCellOf : xZv mX1_firstCellOf 1 := ⟨plainFor_of_name (by decide +kernel), ⟨by decide +kernel, by decide +kernel, by decide +kernel⟩, xinm (List.mem_append_right _ (List.mem_append_left _ (List.mem_of_getElem? (l := tables_1_2) (i := 66) rfl))) rfl, xint 2 (by decide +kernel) rfl, xint 304 (by decide +kernel) rfl, xint 305 (by decide +kernel) rfl⟩
theorem zX1_nextTo : xZv mX1_nextTo 2 := ⟨plainFor_of_name (by decide +kernel), ⟨by decide +kernel, by decide +kernel, by decide +kernel⟩, xinm (List.mem_append_right _ (List.mem_append_right _ (List.mem_append_left _ (List.mem_of_getElem? (l := tables_1_3) (i := 50) rfl)))) rfl, xint 2 (by decide +kernel) rfl, xint 528 (by decide +kernel) rfl, xint 529 (by decide +kernel) rfl⟩
theorem zX2_wipe : xZv mX2_wipe 0 := ⟨plainFor_of_name (by decide +kernel), ⟨by decide +kernel, by decide +kernel, by decide +kernel⟩, xinm (List.mem_append_right _ (List.mem_append_left _ (List.mem_of_getElem? (l := tables_1_2) (i := 95) rfl))) rfl, xint 6 (by decide +kernel) rfl, xint 333 (by decide +kernel) rfl, xint 334 (by decide +kernel) rfl⟩
theorem zX2_noted : xZv mX2_noted 0 := ⟨plainFor_of_name (by decide +kernel), ⟨by decide +kernel, by decide +kernel, by decide +kernel⟩, xinm (List.mem_append_right _ (List.mem_append_right _ (List.mem_append_right _ (List.mem_append_left _ (List.mem_of_getElem? (l := tables_1_4) (i := 90) rfl))))) rfl, xint 6 (by decide +kernel) rfl, xint 808 (by decide +kernel) rfl, xint 809 (by decide +kernel) rfl⟩
theorem zX2_keepHits : xZv mX2_keepHits 3 := ⟨plainFor_of_name (by decide +kernel), ⟨by decide +kernel, by decide +kernel, by decide +kernel⟩, xinm (List.mem_append_right _ (List.mem_append_right _ (List.mem_append_left _ (List.mem_of_getElem? (l := tables_1_3) (i := 66) rfl)))) rfl, xint 6 (by decide +kernel) rfl, xint 544 (by decide +kernel) rfl, xint 545 (by decide +kernel) rfl⟩
theorem zX2_noteGoingBack : xZv mX2_noteGoingBack 3 := ⟨plainFor_of_name (by decide +kernel), ⟨by decide +kernel, by decide +kernel, by decide +kernel⟩, xinm (List.mem_append_right _ (List.mem_append_right _ (List.mem_append_left _ (List.mem_of_getElem? (l := tables_1_3) (i := 176) rfl)))) rfl, xint 6 (by decide +kernel) rfl, xint 654 (by decide +kernel) rfl, xint 655 (by decide +kernel) rfl⟩
theorem zX2_noteTakenBack : xZv mX2_noteTakenBack 4 := ⟨plainFor_of_name (by decide +kernel), ⟨by decide +kernel, by decide +kernel, by decide +kernel⟩, xinm (List.mem_append_right _ (List.mem_append_right _ (List.mem_append_left _ (List.mem_of_getElem? (l := tables_1_3) (i := 181) rfl)))) rfl, xint 6 (by decide +kernel) rfl, xint 660 (by decide +kernel) rfl, xins 18 (by decide +kernel) rfl⟩
theorem zX3_wipe : xZv mX3_wipe 0 := ⟨plainFor_of_name (by decide +kernel), ⟨by decide +kernel, by decide +kernel, by decide +kernel⟩, xinm (List.mem_append_right _ (List.mem_append_left _ (List.mem_of_getElem? (l := tables_1_2) (i := 87) rfl))) rfl, xint 5 (by decide +kernel) rfl, xint 325 (by decide +kernel) rfl, xint 326 (by decide +kernel) rfl⟩
theorem zX3_noteAct : xZv mX3_noteAct 4 := ⟨plainFor_of_name (by decide +kernel), ⟨by decide +kernel, by decide +kernel, by decide +kernel⟩, xinm (List.mem_append_right _ (List.mem_append_right _ (List.mem_append_left _ (List.mem_of_getElem? (l := tables_1_3) (i := 62) rfl)))) rfl, xint 5 (by decide +kernel) rfl, xint 540 (by decide +kernel) rfl, xint 541 (by decide +kernel) rfl⟩
theorem zX3_codeOf : xZv mX3_codeOf 2 := ⟨plainFor_of_name (by decide +kernel), ⟨by decide +kernel, by decide +kernel, by decide +kernel⟩, xinm (List.mem_append_right _ (List.mem_append_right _ (List.mem_append_left _ (List.mem_of_getElem? (l := tables_1_3) (i := 35) rfl)))) rfl, xint 5 (by decide +kernel) rfl, xint 513 (by decide +kernel) rfl, xint 514 (by decide +kernel) rfl⟩
theorem zX3_isLate : xZv mX3_isLate 2 := ⟨plainFor_of_name (by decide +kernel), ⟨by decide +kernel, by decide +kernel, by decide +kernel⟩, xinm (List.mem_append_right _ (List.mem_append_right _ (List.mem_append_left _ (List.mem_of_getElem? (l := tables_1_3) (i := 196) rfl)))) rfl, xint 5 (by decide +kernel) rfl, xint 674 (by decide +kernel) rfl, xint 675 (by decide +kernel) rfl⟩
theorem zX3_noteHit : xZv mX3_noteHit 3 := ⟨plainFor_of_name (by decide +kernel), ⟨by decide +kernel, by decide +kernel, by decide +kernel⟩, xinm (List.mem_append_right _ (List.mem_append_right _ (List.mem_append_left _ (List.mem_of_getElem? (l := tables_1_3) (i := 130) rfl)))) rfl, xint 5 (by decide +kernel) rfl, xint 608 (by decide +kernel) rfl, xint 609 (by decide +kernel) rfl⟩
theorem zX3_hitOf : xZv mX3_hitOf 2 := ⟨plainFor_of_name (by decide +kernel), ⟨by decide +kernel, by decide +kernel, by decide +kernel⟩, xinm (List.mem_append_right _ (List.mem_append_right _ (List.mem_append_left _ (List.mem_of_getElem? (l := tables_1_3) (i := 70) rfl)))) rfl, xint 5 (by decide +kernel) rfl, xint 548 (by decide +kernel) rfl, xint 549 (by decide +kernel) rfl⟩
theorem zX4_wipe : xZv mX4_wipe 0 := ⟨plainFor_of_name (by decide +kernel), ⟨by decide +kernel, by decide +kernel, by decide +kernel⟩, xinm (List.mem_append_right _ (List.mem_append_left _ (List.mem_of_getElem? (l := tables_1_2) (i := 103) rfl))) rfl, xint 8 (by decide +kernel) rfl, xint 341 (by decide +kernel) rfl, xint 342 (by decide +kernel) rfl⟩
theorem zX4_addTrial : xZv mX4_addTrial 4 := ⟨plainFor_of_name (by decide +kernel), ⟨by decide +kernel, by decide +kernel, by decide +kernel⟩, xinm (List.mem_append_right _ (List.mem_append_right _ (List.mem_append_left _ (List.mem_of_getElem? (l := tables_1_3) (i := 228) rfl)))) rfl, xint 8 (by decide +kernel) rfl, xint 706 (by decide +kernel) rfl, xint 707 (by decide +kernel) rfl⟩
theorem zX4_spread : xZv mX4_spread 1 := ⟨plainFor_of_name (by decide +kernel), ⟨by decide +kernel, by decide +kernel, by decide +kernel⟩, xinm (List.mem_append_right _ (List.mem_append_right _ (List.mem_append_left _ (List.mem_of_getElem? (l := tables_1_3) (i := 232) rfl)))) rfl, xint 8 (by decide +kernel) rfl, xint 711 (by decide +kernel) rfl, xins 23 (by decide +kernel) rfl⟩
theorem zX4_tail : xZv mX4_tail 0 := ⟨plainFor_of_name (by decide +kernel), ⟨by decide +kernel, by decide +kernel, by decide +kernel⟩, xinm (List.mem_append_right _ (List.mem_append_right _ (List.mem_append_left _ (List.mem_of_getElem? (l := tables_1_3) (i := 236) rfl)))) rfl, xint 8 (by decide +kernel) rfl, xint 714 (by decide +kernel) rfl, xint 715 (by decide +kernel) rfl⟩
theorem zX5_stateAt : xZv mX5_stateAt 1 := ⟨plainFor_of_name (by decide +kernel), ⟨by decide +kernel, by decide +kernel, by decide +kernel⟩, xinm (List.mem_append_right _ (List.mem_append_right _ (List.mem_append_left _ (List.mem_of_getElem? (l := tables_1_3) (i := 39) rfl)))) rfl, xint 4 (by decide +kernel) rfl, xint 517 (by decide +kernel) rfl, xint 518 (by decide +kernel) rfl⟩
theorem zX5_restart : xZv mX5_restart 1 := ⟨plainFor_of_name (by decide +kernel), ⟨by decide +kernel, by decide +kernel, by decide +kernel⟩, xinm (List.mem_append_right _ (List.mem_append_left _ (List.mem_of_getElem? (l := tables_1_2) (i := 76) rfl))) rfl, xint 4 (by decide +kernel) rfl, xint 314 (by decide +kernel) rfl, xint 315 (by decide +kernel) rfl⟩
theorem zX5_work : xZv mX5_work 3 := ⟨plainFor_of_name (by decide +kernel), ⟨by decide +kernel, by decide +kernel, by decide +kernel⟩, xinm (List.mem_append_right _ (List.mem_append_right _ (List.mem_append_left _ (List.mem_of_getElem? (l := tables_1_3) (i := 74) rfl)))) rfl, xint 4 (by decide +kernel) rfl, xint 552 (by decide +kernel) rfl, xint 553 (by decide +kernel) rfl⟩
theorem zX6_arrange : xZv mX6_arrange 0 := ⟨plainFor_of_name (by decide +kernel), ⟨by decide +kernel, by decide +kernel, by decide +kernel⟩, xinm (List.mem_append_right _ (List.mem_append_left _ (List.mem_of_getElem? (l := tables_1_2) (i := 61) rfl))) rfl, xint 3 (by decide +kernel) rfl, xint 299 (by decide +kernel) rfl, xint 300 (by decide +kernel) rfl⟩
theorem zX6_putNew : xZv mX6_putNew 3 := ⟨plainFor_of_name (by decide +kernel), ⟨by decide +kernel, by decide +kernel, by decide +kernel⟩, xinm (List.mem_append_right _ (List.mem_append_left _ (List.mem_of_getElem? (l := tables_1_2) (i := 70) rfl))) rfl, xint 3 (by decide +kernel) rfl, xint 308 (by decide +kernel) rfl, xint 309 (by decide +kernel) rfl⟩
theorem zX6_copyFrom : xZv mX6_copyFrom 1 := ⟨plainFor_of_name (by decide +kernel), ⟨by decide +kernel, by decide +kernel, by decide +kernel⟩, xinm (List.mem_append_right _ (List.mem_append_left _ (List.mem_of_getElem? (l := tables_1_2) (i := 80) rfl))) rfl, xint 3 (by decide +kernel) rfl, xint 318 (by decide +kernel) rfl, xint 319 (by decide +kernel) rfl⟩
theorem zX6_standsOrLiesIn : xZv mX6_standsOrLiesIn 2 := ⟨plainFor_of_name (by decide +kernel), ⟨by decide +kernel, by decide +kernel, by decide +kernel⟩, xinm (List.mem_append_right _ (List.mem_append_right _ (List.mem_append_right _ (List.mem_append_left _ (List.mem_of_getElem? (l := tables_1_4) (i := 42) rfl))))) rfl, xint 3 (by decide +kernel) rfl, xint 760 (by decide +kernel) rfl, xint 761 (by decide +kernel) rfl⟩
theorem zX6_holdsThing : xZv mX6_holdsThing 1 := ⟨plainFor_of_name (by decide +kernel), ⟨by decide +kernel, by decide +kernel, by decide +kernel⟩, xinm (List.mem_append_right _ (List.mem_append_left _ (List.mem_of_getElem? (l := tables_1_2) (i := 172) rfl))) rfl, xint 3 (by decide +kernel) rfl, xint 410 (by decide +kernel) rfl, xint 411 (by decide +kernel) rfl⟩
theorem zX6_standingIn : xZv mX6_standingIn 1 := ⟨plainFor_of_name (by decide +kernel), ⟨by decide +kernel, by decide +kernel, by decide +kernel⟩, xinm (List.mem_append_right _ (List.mem_append_left _ (List.mem_of_getElem? (l := tables_1_2) (i := 200) rfl))) rfl, xint 3 (by decide +kernel) rfl, xint 438 (by decide +kernel) rfl, xint 439 (by decide +kernel) rfl⟩
theorem zX6_bars : xZv mX6_bars 1 := ⟨plainFor_of_name (by decide +kernel), ⟨by decide +kernel, by decide +kernel, by decide +kernel⟩, xinm (List.mem_append_right _ (List.mem_append_right _ (List.mem_append_left _ (List.mem_of_getElem? (l := tables_1_3) (i := 92) rfl)))) rfl, xint 3 (by decide +kernel) rfl, xint 570 (by decide +kernel) rfl, xint 571 (by decide +kernel) rfl⟩
theorem zX6_isShutDoor : xZv mX6_isShutDoor 1 := ⟨plainFor_of_name (by decide +kernel), ⟨by decide +kernel, by decide +kernel, by decide +kernel⟩, xinm (List.mem_append_right _ (List.mem_append_right _ (List.mem_append_left _ (List.mem_of_getElem? (l := tables_1_3) (i := 118) rfl)))) rfl, xint 3 (by decide +kernel) rfl, xint 596 (by decide +kernel) rfl, xint 597 (by decide +kernel) rfl⟩
theorem zX6_isFree : xZv mX6_isFree 1 := ⟨plainFor_of_name (by decide +kernel), ⟨by decide +kernel, by decide +kernel, by decide +kernel⟩, xinm (List.mem_append_right _ (List.mem_append_right _ (List.mem_append_left _ (List.mem_of_getElem? (l := tables_1_3) (i := 88) rfl)))) rfl, xint 3 (by decide +kernel) rfl, xint 566 (by decide +kernel) rfl, xint 567 (by decide +kernel) rfl⟩
theorem zX6_carries : xZv mX6_carries 2 := ⟨plainFor_of_name (by decide +kernel), ⟨by decide +kernel, by decide +kernel, by decide +kernel⟩, xinm (List.mem_append_right _ (List.mem_append_right _ (List.mem_append_left _ (List.mem_of_getElem? (l := tables_1_3) (i := 58) rfl)))) rfl, xint 3 (by decide +kernel) rfl, xint 536 (by decide +kernel) rfl, xint 537 (by decide +kernel) rfl⟩
theorem zX6_reaches : xZv mX6_reaches 3 := ⟨plainFor_of_name (by decide +kernel), ⟨by decide +kernel, by decide +kernel, by decide +kernel⟩, xinm (List.mem_append_right _ (List.mem_append_right _ (List.mem_append_left _ (List.mem_of_getElem? (l := tables_1_3) (i := 142) rfl)))) rfl, xint 3 (by decide +kernel) rfl, xint 620 (by decide +kernel) rfl, xint 621 (by decide +kernel) rfl⟩
theorem zX6_spots : xZv mX6_spots 2 := ⟨plainFor_of_name (by decide +kernel), ⟨by decide +kernel, by decide +kernel, by decide +kernel⟩, xinm (List.mem_append_right _ (List.mem_append_right _ (List.mem_append_left _ (List.mem_of_getElem? (l := tables_1_3) (i := 212) rfl)))) rfl, xint 3 (by decide +kernel) rfl, xint 690 (by decide +kernel) rfl, xint 691 (by decide +kernel) rfl⟩
theorem zX6_looksOf : xZv mX6_looksOf 1 := ⟨plainFor_of_name (by decide +kernel), ⟨by decide +kernel, by decide +kernel, by decide +kernel⟩, xinm (List.mem_append_right _ (List.mem_append_right _ (List.mem_append_right _ (List.mem_append_left _ (List.mem_of_getElem? (l := tables_1_4) (i := 38) rfl))))) rfl, xint 3 (by decide +kernel) rfl, xint 756 (by decide +kernel) rfl, xint 757 (by decide +kernel) rfl⟩
theorem zX6_tellOf : xZv mX6_tellOf 2 := ⟨plainFor_of_name (by decide +kernel), ⟨by decide +kernel, by decide +kernel, by decide +kernel⟩, xinm (List.mem_append_right _ (List.mem_append_right _ (List.mem_append_right _ (List.mem_append_left _ (List.mem_of_getElem? (l := tables_1_4) (i := 34) rfl))))) rfl, xint 3 (by decide +kernel) rfl, xint 752 (by decide +kernel) rfl, xint 753 (by decide +kernel) rfl⟩
theorem zX6_letterTo : xZv mX6_letterTo 1 := ⟨plainFor_of_name (by decide +kernel), ⟨by decide +kernel, by decide +kernel, by decide +kernel⟩, xinm (List.mem_append_right _ (List.mem_append_right _ (List.mem_append_right _ (List.mem_append_left _ (List.mem_of_getElem? (l := tables_1_4) (i := 54) rfl))))) rfl, xint 3 (by decide +kernel) rfl, xint 772 (by decide +kernel) rfl, xint 773 (by decide +kernel) rfl⟩
theorem zX6_addThingsIn : xZv mX6_addThingsIn 2 := ⟨plainFor_of_name (by decide +kernel), ⟨by decide +kernel, by decide +kernel, by decide +kernel⟩, xinm (List.mem_append_right _ (List.mem_append_right _ (List.mem_append_right _ (List.mem_append_left _ (List.mem_of_getElem? (l := tables_1_4) (i := 58) rfl))))) rfl, xint 3 (by decide +kernel) rfl, xint 777 (by decide +kernel) rfl, xins 25 (by decide +kernel) rfl⟩
theorem zX6_sumUp : xZv mX6_sumUp 0 := ⟨plainFor_of_name (by decide +kernel), ⟨by decide +kernel, by decide +kernel, by decide +kernel⟩, xinm (List.mem_append_right _ (List.mem_append_right _ (List.mem_append_right _ (List.mem_append_left _ (List.mem_of_getElem? (l := tables_1_4) (i := 66) rfl))))) rfl, xint 3 (by decide +kernel) rfl, xint 784 (by decide +kernel) rfl, xint 785 (by decide +kernel) rfl⟩
theorem zX6_forbids : xZv mX6_forbids 2 := ⟨plainFor_of_name (by decide +kernel), ⟨by decide +kernel, by decide +kernel, by decide +kernel⟩, xinm (List.mem_append_right _ (List.mem_append_right _ (List.mem_append_left _ (List.mem_of_getElem? (l := tables_1_3) (i := 44) rfl)))) rfl, xint 3 (by decide +kernel) rfl, xint 522 (by decide +kernel) rfl, xint 523 (by decide +kernel) rfl⟩
theorem zX6_isDoor : xZv mX6_isDoor 1 := ⟨plainFor_of_name (by decide +kernel), ⟨by decide +kernel, by decide +kernel, by decide +kernel⟩, xinm (List.mem_append_right _ (List.mem_append_right _ (List.mem_append_left _ (List.mem_of_getElem? (l := tables_1_3) (i := 54) rfl)))) rfl, xint 3 (by decide +kernel) rfl, xint 533 (by decide +kernel) rfl, xins 5 (by decide +kernel) rfl⟩
theorem zX6_shotChance : xZv mX6_shotChance 2 := ⟨plainFor_of_name (by decide +kernel), ⟨by decide +kernel, by decide +kernel, by decide +kernel⟩, xinm (List.mem_append_right _ (List.mem_append_right _ (List.mem_append_left _ (List.mem_of_getElem? (l := tables_1_3) (i := 204) rfl)))) rfl, xint 3 (by decide +kernel) rfl, xint 682 (by decide +kernel) rfl, xint 683 (by decide +kernel) rfl⟩
theorem zX6_unseenInLine : xZv mX6_unseenInLine 2 := ⟨plainFor_of_name (by decide +kernel), ⟨by decide +kernel, by decide +kernel, by decide +kernel⟩, xinm (List.mem_append_right _ (List.mem_append_right _ (List.mem_append_left _ (List.mem_of_getElem? (l := tables_1_3) (i := 208) rfl)))) rfl, xint 3 (by decide +kernel) rfl, xint 687 (by decide +kernel) rfl, xins 20 (by decide +kernel) rfl⟩
theorem zX6_hiddenThings : xZv mX6_hiddenThings 1 := ⟨plainFor_of_name (by decide +kernel), ⟨by decide +kernel, by decide +kernel, by decide +kernel⟩, xinm (List.mem_append_right _ (List.mem_append_right _ (List.mem_append_left _ (List.mem_of_getElem? (l := tables_1_3) (i := 221) rfl)))) rfl, xint 3 (by decide +kernel) rfl, xint 700 (by decide +kernel) rfl, xins 22 (by decide +kernel) rfl⟩
theorem zX6_darkCells : xZv mX6_darkCells 1 := ⟨plainFor_of_name (by decide +kernel), ⟨by decide +kernel, by decide +kernel, by decide +kernel⟩, xinm (List.mem_append_right _ (List.mem_append_right _ (List.mem_append_left _ (List.mem_of_getElem? (l := tables_1_3) (i := 216) rfl)))) rfl, xint 3 (by decide +kernel) rfl, xint 695 (by decide +kernel) rfl, xins 21 (by decide +kernel) rfl⟩
theorem zX6_wordChance : xZv mX6_wordChance 2 := ⟨plainFor_of_name (by decide +kernel), ⟨by decide +kernel, by decide +kernel, by decide +kernel⟩, xinm (List.mem_append_right _ (List.mem_append_right _ (List.mem_append_right _ (List.mem_append_left _ (List.mem_of_getElem? (l := tables_1_4) (i := 2) rfl))))) rfl, xint 3 (by decide +kernel) rfl, xint 720 (by decide +kernel) rfl, xint 721 (by decide +kernel) rfl⟩
theorem zX6_isWordNext : xZv mX6_isWordNext 3 := ⟨plainFor_of_name (by decide +kernel), ⟨by decide +kernel, by decide +kernel, by decide +kernel⟩, xinm (List.mem_append_right _ (List.mem_append_right _ (List.mem_append_left _ (List.mem_of_getElem? (l := tables_1_3) (i := 114) rfl)))) rfl, xint 3 (by decide +kernel) rfl, xint 592 (by decide +kernel) rfl, xint 593 (by decide +kernel) rfl⟩
theorem zX6_moveBodies : xZv mX6_moveBodies 2 := ⟨plainFor_of_name (by decide +kernel), ⟨by decide +kernel, by decide +kernel, by decide +kernel⟩, xinm (List.mem_append_right _ (List.mem_append_right _ (List.mem_append_left _ (List.mem_of_getElem? (l := tables_1_3) (i := 79) rfl)))) rfl, xint 3 (by decide +kernel) rfl, xint 557 (by decide +kernel) rfl, xint 558 (by decide +kernel) rfl⟩
theorem zX6_shoot : xZv mX6_shoot 2 := ⟨plainFor_of_name (by decide +kernel), ⟨by decide +kernel, by decide +kernel, by decide +kernel⟩, xinm (List.mem_append_right _ (List.mem_append_right _ (List.mem_append_left _ (List.mem_of_getElem? (l := tables_1_3) (i := 105) rfl)))) rfl, xint 3 (by decide +kernel) rfl, xint 584 (by decide +kernel) rfl, xins 9 (by decide +kernel) rfl⟩
theorem zX6_hurl : xZv mX6_hurl 2 := ⟨plainFor_of_name (by decide +kernel), ⟨by decide +kernel, by decide +kernel, by decide +kernel⟩, xinm (List.mem_append_right _ (List.mem_append_right _ (List.mem_append_left _ (List.mem_of_getElem? (l := tables_1_3) (i := 126) rfl)))) rfl, xint 3 (by decide +kernel) rfl, xint 605 (by decide +kernel) rfl, xins 12 (by decide +kernel) rfl⟩
theorem zX6_tryWord : xZv mX6_tryWord 3 := ⟨plainFor_of_name (by decide +kernel), ⟨by decide +kernel, by decide +kernel, by decide +kernel⟩, xinm (List.mem_append_right _ (List.mem_append_right _ (List.mem_append_left _ (List.mem_of_getElem? (l := tables_1_3) (i := 110) rfl)))) rfl, xint 3 (by decide +kernel) rfl, xint 589 (by decide +kernel) rfl, xins 10 (by decide +kernel) rfl⟩
theorem zX6_pickUp : xZv mX6_pickUp 1 := ⟨plainFor_of_name (by decide +kernel), ⟨by decide +kernel, by decide +kernel, by decide +kernel⟩, xinm (List.mem_append_right _ (List.mem_append_right _ (List.mem_append_left _ (List.mem_of_getElem? (l := tables_1_3) (i := 122) rfl)))) rfl, xint 3 (by decide +kernel) rfl, xint 601 (by decide +kernel) rfl, xins 11 (by decide +kernel) rfl⟩
theorem zX6_letGo : xZv mX6_letGo 2 := ⟨plainFor_of_name (by decide +kernel), ⟨by decide +kernel, by decide +kernel, by decide +kernel⟩, xinm (List.mem_append_right _ (List.mem_append_right _ (List.mem_append_left _ (List.mem_of_getElem? (l := tables_1_3) (i := 101) rfl)))) rfl, xint 3 (by decide +kernel) rfl, xint 580 (by decide +kernel) rfl, xins 8 (by decide +kernel) rfl⟩
theorem zX6_hurt : xZv mX6_hurt 2 := ⟨plainFor_of_name (by decide +kernel), ⟨by decide +kernel, by decide +kernel, by decide +kernel⟩, xinm (List.mem_append_right _ (List.mem_append_right _ (List.mem_append_left _ (List.mem_of_getElem? (l := tables_1_3) (i := 97) rfl)))) rfl, xint 3 (by decide +kernel) rfl, xint 576 (by decide +kernel) rfl, xins 7 (by decide +kernel) rfl⟩
theorem zX6_enterIfFree : xZv mX6_enterIfFree 2 := ⟨plainFor_of_name (by decide +kernel), ⟨by decide +kernel, by decide +kernel, by decide +kernel⟩, xinm (List.mem_append_right _ (List.mem_append_right _ (List.mem_append_left _ (List.mem_of_getElem? (l := tables_1_3) (i := 84) rfl)))) rfl, xint 3 (by decide +kernel) rfl, xint 563 (by decide +kernel) rfl, xins 6 (by decide +kernel) rfl⟩
theorem zX6_moveBeasts : xZv mX6_moveBeasts 0 := ⟨plainFor_of_name (by decide +kernel), ⟨by decide +kernel, by decide +kernel, by decide +kernel⟩, xinm (List.mem_append_right _ (List.mem_append_right _ (List.mem_append_left _ (List.mem_of_getElem? (l := tables_1_3) (i := 134) rfl)))) rfl, xint 3 (by decide +kernel) rfl, xint 612 (by decide +kernel) rfl, xint 613 (by decide +kernel) rfl⟩
theorem zX6_nearestTo : xZv mX6_nearestTo 1 := ⟨plainFor_of_name (by decide +kernel), ⟨by decide +kernel, by decide +kernel, by decide +kernel⟩, xinm (List.mem_append_right _ (List.mem_append_right _ (List.mem_append_left _ (List.mem_of_getElem? (l := tables_1_3) (i := 138) rfl)))) rfl, xint 3 (by decide +kernel) rfl, xint 617 (by decide +kernel) rfl, xins 13 (by decide +kernel) rfl⟩
theorem zX6_columnsBetween : xZv mX6_columnsBetween 2 := ⟨plainFor_of_name (by decide +kernel), ⟨by decide +kernel, by decide +kernel, by decide +kernel⟩, xinm (List.mem_append_right _ (List.mem_append_right _ (List.mem_append_left _ (List.mem_of_getElem? (l := tables_1_3) (i := 159) rfl)))) rfl, xint 3 (by decide +kernel) rfl, xint 638 (by decide +kernel) rfl, xins 15 (by decide +kernel) rfl⟩
theorem zX6_rowsBetween : xZv mX6_rowsBetween 2 := ⟨plainFor_of_name (by decide +kernel), ⟨by decide +kernel, by decide +kernel, by decide +kernel⟩, xinm (List.mem_append_right _ (List.mem_append_right _ (List.mem_append_left _ (List.mem_of_getElem? (l := tables_1_3) (i := 163) rfl)))) rfl, xint 3 (by decide +kernel) rfl, xint 642 (by decide +kernel) rfl, xins 16 (by decide +kernel) rfl⟩
theorem zX6_distance : xZv mX6_distance 2 := ⟨plainFor_of_name (by decide +kernel), ⟨by decide +kernel, by decide +kernel, by decide +kernel⟩, xinm (List.mem_append_right _ (List.mem_append_right _ (List.mem_append_left _ (List.mem_of_getElem? (l := tables_1_3) (i := 155) rfl)))) rfl, xint 3 (by decide +kernel) rfl, xint 634 (by decide +kernel) rfl, xins 14 (by decide +kernel) rfl⟩
theorem zX6_cellTowards : xZv mX6_cellTowards 2 := ⟨plainFor_of_name (by decide +kernel), ⟨by decide +kernel, by decide +kernel, by decide +kernel⟩, xinm (List.mem_append_right _ (List.mem_append_right _ (List.mem_append_left _ (List.mem_of_getElem? (l := tables_1_3) (i := 167) rfl)))) rfl, xint 3 (by decide +kernel) rfl, xint 646 (by decide +kernel) rfl, xins 17 (by decide +kernel) rfl⟩
theorem zX6_endTick : xZv mX6_endTick 0 := ⟨plainFor_of_name (by decide +kernel), ⟨by decide +kernel, by decide +kernel, by decide +kernel⟩, xinm (List.mem_append_right _ (List.mem_append_right _ (List.mem_append_left _ (List.mem_of_getElem? (l := tables_1_3) (i := 171) rfl)))) rfl, xint 3 (by decide +kernel) rfl, xint 649 (by decide +kernel) rfl, xint 650 (by decide +kernel) rfl⟩
theorem zX6_readPlates : xZv mX6_readPlates 0 := ⟨plainFor_of_name (by decide +kernel), ⟨by decide +kernel, by decide +kernel, by decide +kernel⟩, xinm (List.mem_append_right _ (List.mem_append_left _ (List.mem_of_getElem? (l := tables_1_2) (i := 192) rfl))) rfl, xint 3 (by decide +kernel) rfl, xint 430 (by decide +kernel) rfl, xint 431 (by decide +kernel) rfl⟩
theorem zX7_wipe : xZv mX7_wipe 0 := ⟨plainFor_of_name (by decide +kernel), ⟨by decide +kernel, by decide +kernel, by decide +kernel⟩, xinm (List.mem_append_right _ (List.mem_append_left _ (List.mem_of_getElem? (l := tables_1_2) (i := 99) rfl))) rfl, xint 7 (by decide +kernel) rfl, xint 337 (by decide +kernel) rfl, xint 338 (by decide +kernel) rfl⟩
theorem zX7_countHit : xZv mX7_countHit 1 := ⟨plainFor_of_name (by decide +kernel), ⟨by decide +kernel, by decide +kernel, by decide +kernel⟩, xinm (List.mem_append_right _ (List.mem_append_right _ (List.mem_append_left _ (List.mem_of_getElem? (l := tables_1_3) (i := 200) rfl)))) rfl, xint 7 (by decide +kernel) rfl, xint 678 (by decide +kernel) rfl, xint 679 (by decide +kernel) rfl⟩
theorem zX7_lookAtGap : xZv mX7_lookAtGap 3 := ⟨plainFor_of_name (by decide +kernel), ⟨by decide +kernel, by decide +kernel, by decide +kernel⟩, xinm (List.mem_append_right _ (List.mem_append_right _ (List.mem_append_right _ (List.mem_append_left _ (List.mem_of_getElem? (l := tables_1_4) (i := 7) rfl))))) rfl, xint 7 (by decide +kernel) rfl, xint 725 (by decide +kernel) rfl, xint 726 (by decide +kernel) rfl⟩
theorem zX8_holdRow : xZv mX8_holdRow 2 := ⟨plainFor_of_name (by decide +kernel), ⟨by decide +kernel, by decide +kernel, by decide +kernel⟩, xinm (List.mem_append_right _ (List.mem_append_right _ (List.mem_append_right _ (List.mem_append_left _ (List.mem_of_getElem? (l := tables_1_4) (i := 122) rfl))))) rfl, xint 9 (by decide +kernel) rfl, xint 840 (by decide +kernel) rfl, xint 841 (by decide +kernel) rfl⟩
theorem zX8_holdView : xZv mX8_holdView 2 := ⟨plainFor_of_name (by decide +kernel), ⟨by decide +kernel, by decide +kernel, by decide +kernel⟩, xinm (List.mem_append_right _ (List.mem_append_right _ (List.mem_append_right _ (List.mem_append_left _ (List.mem_of_getElem? (l := tables_1_4) (i := 133) rfl))))) rfl, xint 9 (by decide +kernel) rfl, xint 851 (by decide +kernel) rfl, xint 852 (by decide +kernel) rfl⟩
theorem zX8_isRow : xZv mX8_isRow 0 := ⟨plainFor_of_name (by decide +kernel), ⟨by decide +kernel, by decide +kernel, by decide +kernel⟩, xinm (List.mem_append_right _ (List.mem_append_right _ (List.mem_append_right _ (List.mem_append_left _ (List.mem_of_getElem? (l := tables_1_4) (i := 162) rfl))))) rfl, xint 9 (by decide +kernel) rfl, xint 880 (by decide +kernel) rfl, xint 881 (by decide +kernel) rfl⟩
theorem zX8_hasPlace : xZv mX8_hasPlace 1 := ⟨plainFor_of_name (by decide +kernel), ⟨by decide +kernel, by decide +kernel, by decide +kernel⟩, xinm (List.mem_append_right _ (List.mem_append_right _ (List.mem_append_right _ (List.mem_append_left _ (List.mem_of_getElem? (l := tables_1_4) (i := 150) rfl))))) rfl, xint 9 (by decide +kernel) rfl, xint 868 (by decide +kernel) rfl, xint 869 (by decide +kernel) rfl⟩
theorem zX8_hasPlaces : xZv mX8_hasPlaces 2 := ⟨plainFor_of_name (by decide +kernel), ⟨by decide +kernel, by decide +kernel, by decide +kernel⟩, xinm (List.mem_append_right _ (List.mem_append_right _ (List.mem_append_right _ (List.mem_append_left _ (List.mem_of_getElem? (l := tables_1_4) (i := 166) rfl))))) rfl, xint 9 (by decide +kernel) rfl, xint 884 (by decide +kernel) rfl, xint 885 (by decide +kernel) rfl⟩
theorem zX8_narrowed : xZv mX8_narrowed 1 := ⟨plainFor_of_name (by decide +kernel), ⟨by decide +kernel, by decide +kernel, by decide +kernel⟩, xinm (List.mem_append_right _ (List.mem_append_right _ (List.mem_append_right _ (List.mem_append_left _ (List.mem_of_getElem? (l := tables_1_4) (i := 154) rfl))))) rfl, xint 9 (by decide +kernel) rfl, xint 872 (by decide +kernel) rfl, xint 873 (by decide +kernel) rfl⟩
theorem zX9_begin : xZv mX9_begin 3 := ⟨plainFor_of_name (by decide +kernel), ⟨by decide +kernel, by decide +kernel, by decide +kernel⟩, xinm (List.mem_append_right _ (List.mem_append_left _ (List.mem_of_getElem? (l := tables_1_2) (i := 156) rfl))) rfl, xint 1 (by decide +kernel) rfl, xint 394 (by decide +kernel) rfl, xint 395 (by decide +kernel) rfl⟩
theorem zX9_startAnew : xZv mX9_startAnew 3 := ⟨plainFor_of_name (by decide +kernel), ⟨by decide +kernel, by decide +kernel, by decide +kernel⟩, xinm (List.mem_append_right _ (List.mem_append_left _ (List.mem_of_getElem? (l := tables_1_2) (i := 46) rfl))) rfl, xint 1 (by decide +kernel) rfl, xint 285 (by decide +kernel) rfl, xins 0 (by decide +kernel) rfl⟩
theorem zX9_hasStarted : xZv mX9_hasStarted 0 := ⟨plainFor_of_name (by decide +kernel), ⟨by decide +kernel, by decide +kernel, by decide +kernel⟩, xinm (List.mem_append_right _ (List.mem_append_left _ (List.mem_of_getElem? (l := tables_1_2) (i := 168) rfl))) rfl, xint 1 (by decide +kernel) rfl, xint 407 (by decide +kernel) rfl, xins 2 (by decide +kernel) rfl⟩
theorem zX9_wall : xZv mX9_wall 1 := ⟨plainFor_of_name (by decide +kernel), ⟨by decide +kernel, by decide +kernel, by decide +kernel⟩, xinm (List.mem_append_right _ (List.mem_append_left _ (List.mem_of_getElem? (l := tables_1_2) (i := 160) rfl))) rfl, xint 1 (by decide +kernel) rfl, xint 398 (by decide +kernel) rfl, xint 399 (by decide +kernel) rfl⟩
theorem zX9_door : xZv mX9_door 2 := ⟨plainFor_of_name (by decide +kernel), ⟨by decide +kernel, by decide +kernel, by decide +kernel⟩, xinm (List.mem_append_right _ (List.mem_append_left _ (List.mem_of_getElem? (l := tables_1_2) (i := 176) rfl))) rfl, xint 1 (by decide +kernel) rfl, xint 414 (by decide +kernel) rfl, xint 415 (by decide +kernel) rfl⟩
theorem zX9_plate : xZv mX9_plate 2 := ⟨plainFor_of_name (by decide +kernel), ⟨by decide +kernel, by decide +kernel, by decide +kernel⟩, xinm (List.mem_append_right _ (List.mem_append_left _ (List.mem_of_getElem? (l := tables_1_2) (i := 184) rfl))) rfl, xint 1 (by decide +kernel) rfl, xint 422 (by decide +kernel) rfl, xint 423 (by decide +kernel) rfl⟩
theorem zX9_place : xZv mX9_place 2 := ⟨plainFor_of_name (by decide +kernel), ⟨by decide +kernel, by decide +kernel, by decide +kernel⟩, xinm (List.mem_append_right _ (List.mem_append_left _ (List.mem_of_getElem? (l := tables_1_2) (i := 196) rfl))) rfl, xint 1 (by decide +kernel) rfl, xint 434 (by decide +kernel) rfl, xint 435 (by decide +kernel) rfl⟩
theorem zX9_late : xZv mX9_late 1 := ⟨plainFor_of_name (by decide +kernel), ⟨by decide +kernel, by decide +kernel, by decide +kernel⟩, xinm (List.mem_append_right _ (List.mem_append_left _ (List.mem_of_getElem? (l := tables_1_2) (i := 209) rfl))) rfl, xint 1 (by decide +kernel) rfl, xint 447 (by decide +kernel) rfl, xint 448 (by decide +kernel) rfl⟩
theorem zX9_risk : xZv mX9_risk 1 := ⟨plainFor_of_name (by decide +kernel), ⟨by decide +kernel, by decide +kernel, by decide +kernel⟩, xinm (List.mem_append_right _ (List.mem_append_left _ (List.mem_of_getElem? (l := tables_1_2) (i := 213) rfl))) rfl, xint 1 (by decide +kernel) rfl, xint 451 (by decide +kernel) rfl, xint 452 (by decide +kernel) rfl⟩
theorem zX9_pack : xZv mX9_pack 5 := ⟨plainFor_of_name (by decide +kernel), ⟨by decide +kernel, by decide +kernel, by decide +kernel⟩, xinm (List.mem_append_right _ (List.mem_append_left _ (List.mem_of_getElem? (l := tables_1_2) (i := 218) rfl))) rfl, xint 1 (by decide +kernel) rfl, xint 456 (by decide +kernel) rfl, xint 457 (by decide +kernel) rfl⟩
theorem zX9_feed : xZv mX9_feed 2 := ⟨plainFor_of_name (by decide +kernel), ⟨by decide +kernel, by decide +kernel, by decide +kernel⟩, xinm (List.mem_append_right _ (List.mem_append_left _ (List.mem_of_getElem? (l := tables_1_2) (i := 229) rfl))) rfl, xint 1 (by decide +kernel) rfl, xint 467 (by decide +kernel) rfl, xint 468 (by decide +kernel) rfl⟩
theorem zX9_receive : xZv mX9_receive 2 := ⟨plainFor_of_name (by decide +kernel), ⟨by decide +kernel, by decide +kernel, by decide +kernel⟩, xinm (List.mem_append_right _ (List.mem_append_left _ (List.mem_of_getElem? (l := tables_1_2) (i := 233) rfl))) rfl, xint 1 (by decide +kernel) rfl, xint 472 (by decide +kernel) rfl, xins 3 (by decide +kernel) rfl⟩
theorem zX9_refusalOf : xZv mX9_refusalOf 2 := ⟨plainFor_of_name (by decide +kernel), ⟨by decide +kernel, by decide +kernel, by decide +kernel⟩, xinm (List.mem_append_right _ (List.mem_append_left _ (List.mem_of_getElem? (l := tables_1_2) (i := 237) rfl))) rfl, xint 1 (by decide +kernel) rfl, xint 476 (by decide +kernel) rfl, xins 4 (by decide +kernel) rfl⟩
theorem zX9_step : xZv mX9_step 0 := ⟨plainFor_of_name (by decide +kernel), ⟨by decide +kernel, by decide +kernel, by decide +kernel⟩, xinm (List.mem_append_right _ (List.mem_append_right _ (List.mem_append_left _ (List.mem_of_getElem? (l := tables_1_3) (i := 185) rfl)))) rfl, xint 1 (by decide +kernel) rfl, xint 663 (by decide +kernel) rfl, xint 664 (by decide +kernel) rfl⟩
theorem zX9_lookAt : xZv mX9_lookAt 2 := ⟨plainFor_of_name (by decide +kernel), ⟨by decide +kernel, by decide +kernel, by decide +kernel⟩, xinm (List.mem_append_right _ (List.mem_append_right _ (List.mem_append_left _ (List.mem_of_getElem? (l := tables_1_3) (i := 189) rfl)))) rfl, xint 1 (by decide +kernel) rfl, xint 668 (by decide +kernel) rfl, xins 19 (by decide +kernel) rfl⟩
theorem zX9_body : xZv mX9_body 2 := ⟨plainFor_of_name (by decide +kernel), ⟨by decide +kernel, by decide +kernel, by decide +kernel⟩, xinm (List.mem_append_right _ (List.mem_append_right _ (List.mem_append_right _ (List.mem_append_left _ (List.mem_of_getElem? (l := tables_1_4) (i := 13) rfl))))) rfl, xint 1 (by decide +kernel) rfl, xint 731 (by decide +kernel) rfl, xint 732 (by decide +kernel) rfl⟩
theorem zX9_thing : xZv mX9_thing 2 := ⟨plainFor_of_name (by decide +kernel), ⟨by decide +kernel, by decide +kernel, by decide +kernel⟩, xinm (List.mem_append_right _ (List.mem_append_right _ (List.mem_append_right _ (List.mem_append_left _ (List.mem_of_getElem? (l := tables_1_4) (i := 17) rfl))))) rfl, xint 1 (by decide +kernel) rfl, xint 735 (by decide +kernel) rfl, xint 736 (by decide +kernel) rfl⟩
theorem zX9_open : xZv mX9_open 1 := ⟨plainFor_of_name (by decide +kernel), ⟨by decide +kernel, by decide +kernel, by decide +kernel⟩, xinm (List.mem_append_right _ (List.mem_append_right _ (List.mem_append_right _ (List.mem_append_left _ (List.mem_of_getElem? (l := tables_1_4) (i := 21) rfl))))) rfl, xint 1 (by decide +kernel) rfl, xint 739 (by decide +kernel) rfl, xint 740 (by decide +kernel) rfl⟩
theorem zX9_sees : xZv mX9_sees 2 := ⟨plainFor_of_name (by decide +kernel), ⟨by decide +kernel, by decide +kernel, by decide +kernel⟩, xinm (List.mem_append_right _ (List.mem_append_right _ (List.mem_append_right _ (List.mem_append_left _ (List.mem_of_getElem? (l := tables_1_4) (i := 25) rfl))))) rfl, xint 1 (by decide +kernel) rfl, xint 743 (by decide +kernel) rfl, xint 744 (by decide +kernel) rfl⟩
theorem zX9_told : xZv mX9_told 2 := ⟨plainFor_of_name (by decide +kernel), ⟨by decide +kernel, by decide +kernel, by decide +kernel⟩, xinm (List.mem_append_right _ (List.mem_append_right _ (List.mem_append_right _ (List.mem_append_left _ (List.mem_of_getElem? (l := tables_1_4) (i := 30) rfl))))) rfl, xint 1 (by decide +kernel) rfl, xint 748 (by decide +kernel) rfl, xint 749 (by decide +kernel) rfl⟩
theorem zX9_letter : xZv mX9_letter 2 := ⟨plainFor_of_name (by decide +kernel), ⟨by decide +kernel, by decide +kernel, by decide +kernel⟩, xinm (List.mem_append_right _ (List.mem_append_right _ (List.mem_append_right _ (List.mem_append_left _ (List.mem_of_getElem? (l := tables_1_4) (i := 46) rfl))))) rfl, xint 1 (by decide +kernel) rfl, xint 764 (by decide +kernel) rfl, xint 765 (by decide +kernel) rfl⟩
theorem zX9_digest : xZv mX9_digest 1 := ⟨plainFor_of_name (by decide +kernel), ⟨by decide +kernel, by decide +kernel, by decide +kernel⟩, xinm (List.mem_append_right _ (List.mem_append_right _ (List.mem_append_right _ (List.mem_append_left _ (List.mem_of_getElem? (l := tables_1_4) (i := 62) rfl))))) rfl, xint 1 (by decide +kernel) rfl, xint 780 (by decide +kernel) rfl, xint 781 (by decide +kernel) rfl⟩
theorem zX9_remembers : xZv mX9_remembers 1 := ⟨plainFor_of_name (by decide +kernel), ⟨by decide +kernel, by decide +kernel, by decide +kernel⟩, xinm (List.mem_append_right _ (List.mem_append_right _ (List.mem_append_right _ (List.mem_append_left _ (List.mem_of_getElem? (l := tables_1_4) (i := 50) rfl))))) rfl, xint 1 (by decide +kernel) rfl, xint 769 (by decide +kernel) rfl, xins 24 (by decide +kernel) rfl⟩
theorem zX9_replay : xZv mX9_replay 1 := ⟨plainFor_of_name (by decide +kernel), ⟨by decide +kernel, by decide +kernel, by decide +kernel⟩, xinm (List.mem_append_right _ (List.mem_append_right _ (List.mem_append_right _ (List.mem_append_left _ (List.mem_of_getElem? (l := tables_1_4) (i := 70) rfl))))) rfl, xint 1 (by decide +kernel) rfl, xint 788 (by decide +kernel) rfl, xint 789 (by decide +kernel) rfl⟩
theorem zX9_fall : xZv mX9_fall 0 := ⟨plainFor_of_name (by decide +kernel), ⟨by decide +kernel, by decide +kernel, by decide +kernel⟩, xinm (List.mem_append_right _ (List.mem_append_right _ (List.mem_append_right _ (List.mem_append_left _ (List.mem_of_getElem? (l := tables_1_4) (i := 74) rfl))))) rfl, xint 1 (by decide +kernel) rfl, xint 792 (by decide +kernel) rfl, xint 793 (by decide +kernel) rfl⟩
theorem zX9_act : xZv mX9_act 2 := ⟨plainFor_of_name (by decide +kernel), ⟨by decide +kernel, by decide +kernel, by decide +kernel⟩, xinm (List.mem_append_right _ (List.mem_append_right _ (List.mem_append_right _ (List.mem_append_left _ (List.mem_of_getElem? (l := tables_1_4) (i := 78) rfl))))) rfl, xint 1 (by decide +kernel) rfl, xint 796 (by decide +kernel) rfl, xint 797 (by decide +kernel) rfl⟩
theorem zX9_hit : xZv mX9_hit 2 := ⟨plainFor_of_name (by decide +kernel), ⟨by decide +kernel, by decide +kernel, by decide +kernel⟩, xinm (List.mem_append_right _ (List.mem_append_right _ (List.mem_append_right _ (List.mem_append_left _ (List.mem_of_getElem? (l := tables_1_4) (i := 82) rfl))))) rfl, xint 1 (by decide +kernel) rfl, xint 800 (by decide +kernel) rfl, xint 801 (by decide +kernel) rfl⟩
theorem zX9_taken : xZv mX9_taken 2 := ⟨plainFor_of_name (by decide +kernel), ⟨by decide +kernel, by decide +kernel, by decide +kernel⟩, xinm (List.mem_append_right _ (List.mem_append_right _ (List.mem_append_right _ (List.mem_append_left _ (List.mem_of_getElem? (l := tables_1_4) (i := 86) rfl))))) rfl, xint 1 (by decide +kernel) rfl, xint 804 (by decide +kernel) rfl, xint 805 (by decide +kernel) rfl⟩
theorem zX9_back : xZv mX9_back 1 := ⟨plainFor_of_name (by decide +kernel), ⟨by decide +kernel, by decide +kernel, by decide +kernel⟩, xinm (List.mem_append_right _ (List.mem_append_right _ (List.mem_append_right _ (List.mem_append_left _ (List.mem_of_getElem? (l := tables_1_4) (i := 94) rfl))))) rfl, xint 1 (by decide +kernel) rfl, xint 812 (by decide +kernel) rfl, xint 813 (by decide +kernel) rfl⟩
theorem zX9_watch : xZv mX9_watch 3 := ⟨plainFor_of_name (by decide +kernel), ⟨by decide +kernel, by decide +kernel, by decide +kernel⟩, xinm (List.mem_append_right _ (List.mem_append_right _ (List.mem_append_right _ (List.mem_append_left _ (List.mem_of_getElem? (l := tables_1_4) (i := 98) rfl))))) rfl, xint 1 (by decide +kernel) rfl, xint 816 (by decide +kernel) rfl, xint 817 (by decide +kernel) rfl⟩
theorem zX9_fair : xZv mX9_fair 2 := ⟨plainFor_of_name (by decide +kernel), ⟨by decide +kernel, by decide +kernel, by decide +kernel⟩, xinm (List.mem_append_right _ (List.mem_append_right _ (List.mem_append_right _ (List.mem_append_left _ (List.mem_of_getElem? (l := tables_1_4) (i := 103) rfl))))) rfl, xint 1 (by decide +kernel) rfl, xint 821 (by decide +kernel) rfl, xint 822 (by decide +kernel) rfl⟩
theorem zX9_count : xZv mX9_count 1 := ⟨plainFor_of_name (by decide +kernel), ⟨by decide +kernel, by decide +kernel, by decide +kernel⟩, xinm (List.mem_append_right _ (List.mem_append_right _ (List.mem_append_right _ (List.mem_append_left _ (List.mem_of_getElem? (l := tables_1_4) (i := 107) rfl))))) rfl, xint 1 (by decide +kernel) rfl, xint 825 (by decide +kernel) rfl, xint 826 (by decide +kernel) rfl⟩
theorem zX9_isTape : xZs mX9_isTape 1 := ⟨plainFor_of_name (by decide +kernel), ⟨by decide +kernel, by decide +kernel, by decide +kernel⟩, xinm (List.mem_append_right _ (List.mem_append_right _ (List.mem_append_right _ (List.mem_append_left _ (List.mem_of_getElem? (l := tables_1_4) (i := 114) rfl))))) rfl, xint 1 (by decide +kernel) rfl, xint 833 (by decide +kernel) rfl⟩
theorem zX9_refuse : xZv mX9_refuse 1 := ⟨plainFor_of_name (by decide +kernel), ⟨by decide +kernel, by decide +kernel, by decide +kernel⟩, xinm (List.mem_append_right _ (List.mem_append_right _ (List.mem_append_right _ (List.mem_append_left _ (List.mem_of_getElem? (l := tables_1_4) (i := 118) rfl))))) rfl, xint 1 (by decide +kernel) rfl, xint 837 (by decide +kernel) rfl, xins 26 (by decide +kernel) rfl⟩
theorem zX9_refuseBut : xZv mX9_refuseBut 3 := ⟨plainFor_of_name (by decide +kernel), ⟨by decide +kernel, by decide +kernel, by decide +kernel⟩, xinm (List.mem_append_right _ (List.mem_append_right _ (List.mem_append_right _ (List.mem_append_left _ (List.mem_of_getElem? (l := tables_1_4) (i := 146) rfl))))) rfl, xint 1 (by decide +kernel) rfl, xint 865 (by decide +kernel) rfl, xins 27 (by decide +kernel) rfl⟩
theorem zX9_tape : xZv mX9_tape 3 := ⟨plainFor_of_name (by decide +kernel), ⟨by decide +kernel, by decide +kernel, by decide +kernel⟩, xinm (List.mem_append_right _ (List.mem_append_right _ (List.mem_append_right _ (List.mem_append_left _ (List.mem_of_getElem? (l := tables_1_4) (i := 111) rfl))))) rfl, xint 1 (by decide +kernel) rfl, xint 829 (by decide +kernel) rfl, xint 830 (by decide +kernel) rfl⟩
theorem zX9_view : xZv mX9_view 2 := ⟨plainFor_of_name (by decide +kernel), ⟨by decide +kernel, by decide +kernel, by decide +kernel⟩, xinm (List.mem_append_right _ (List.mem_append_right _ (List.mem_append_right _ (List.mem_append_left _ (List.mem_of_getElem? (l := tables_1_4) (i := 129) rfl))))) rfl, xint 1 (by decide +kernel) rfl, xint 847 (by decide +kernel) rfl, xint 848 (by decide +kernel) rfl⟩
theorem zX9_clear : xZv mX9_clear 1 := ⟨plainFor_of_name (by decide +kernel), ⟨by decide +kernel, by decide +kernel, by decide +kernel⟩, xinm (List.mem_append_right _ (List.mem_append_right _ (List.mem_append_right _ (List.mem_append_left _ (List.mem_of_getElem? (l := tables_1_4) (i := 138) rfl))))) rfl, xint 1 (by decide +kernel) rfl, xint 856 (by decide +kernel) rfl, xint 857 (by decide +kernel) rfl⟩
theorem zX9_put : xZv mX9_put 3 := ⟨plainFor_of_name (by decide +kernel), ⟨by decide +kernel, by decide +kernel, by decide +kernel⟩, xinm (List.mem_append_right _ (List.mem_append_right _ (List.mem_append_right _ (List.mem_append_left _ (List.mem_of_getElem? (l := tables_1_4) (i := 142) rfl))))) rfl, xint 1 (by decide +kernel) rfl, xint 860 (by decide +kernel) rfl, xint 861 (by decide +kernel) rfl⟩
theorem zX9_copy : xZv mX9_copy 5 := ⟨plainFor_of_name (by decide +kernel), ⟨by decide +kernel, by decide +kernel, by decide +kernel⟩, xinm (List.mem_append_right _ (List.mem_append_right _ (List.mem_append_right _ (List.mem_append_left _ (List.mem_of_getElem? (l := tables_1_4) (i := 158) rfl))))) rfl, xint 1 (by decide +kernel) rfl, xint 876 (by decide +kernel) rfl, xint 877 (by decide +kernel) rfl⟩
theorem zX9_play : xZv mX9_play 4 := ⟨plainFor_of_name (by decide +kernel), ⟨by decide +kernel, by decide +kernel, by decide +kernel⟩, xinm (List.mem_append_right _ (List.mem_append_right _ (List.mem_append_right _ (List.mem_append_left _ (List.mem_of_getElem? (l := tables_1_4) (i := 171) rfl))))) rfl, xint 1 (by decide +kernel) rfl, xint 889 (by decide +kernel) rfl, xint 890 (by decide +kernel) rfl⟩
theorem zX9_kept : xZv mX9_kept 2 := ⟨plainFor_of_name (by decide +kernel), ⟨by decide +kernel, by decide +kernel, by decide +kernel⟩, xinm (List.mem_append_right _ (List.mem_append_right _ (List.mem_append_right _ (List.mem_append_left _ (List.mem_of_getElem? (l := tables_1_4) (i := 175) rfl))))) rfl, xint 1 (by decide +kernel) rfl, xint 893 (by decide +kernel) rfl, xint 894 (by decide +kernel) rfl⟩
theorem zX10_thrown : xZv mX10_thrown 0 := ⟨plainFor_of_name (by decide +kernel), ⟨by decide +kernel, by decide +kernel, by decide +kernel⟩, xinm (List.mem_append_right _ (List.mem_append_right _ (List.mem_append_right _ (List.mem_append_right _ (List.mem_append_left _ (List.mem_of_getElem? (l := tables_1_5) (i := 173) rfl)))))) rfl, xint 12 (by decide +kernel) rfl, xint 1131 (by decide +kernel) rfl, xint 1132 (by decide +kernel) rfl⟩
theorem zX10_in : xZs mX10_in 3 := ⟨plainFor_of_name (by decide +kernel), ⟨by decide +kernel, by decide +kernel, by decide +kernel⟩, xinm (List.mem_append_right _ (List.mem_append_right _ (List.mem_append_right _ (List.mem_append_right _ (List.mem_append_left _ (List.mem_of_getElem? (l := tables_1_5) (i := 180) rfl)))))) rfl, xint 12 (by decide +kernel) rfl, xint 1139 (by decide +kernel) rfl⟩
theorem zX10_host : xZv mX10_host 1 := ⟨plainFor_of_name (by decide +kernel), ⟨by decide +kernel, by decide +kernel, by decide +kernel⟩, xinm (List.mem_append_right _ (List.mem_append_right _ (List.mem_append_right _ (List.mem_append_right _ (List.mem_append_right _ (List.mem_append_left _ (List.mem_of_getElem? (l := tables_1_6) (i := 220) rfl))))))) rfl, xint 12 (by decide +kernel) rfl, xint 1419 (by decide +kernel) rfl, xins 71 (by decide +kernel) rfl⟩
theorem zX10_floorOf : xZs mX10_floorOf 2 := ⟨plainFor_of_name (by decide +kernel), ⟨by decide +kernel, by decide +kernel, by decide +kernel⟩, xinm (List.mem_append_right _ (List.mem_append_right _ (List.mem_append_right _ (List.mem_append_right _ (List.mem_append_right _ (List.mem_append_left _ (List.mem_of_getElem? (l := tables_1_6) (i := 87) rfl))))))) rfl, xint 12 (by decide +kernel) rfl, xint 1286 (by decide +kernel) rfl⟩
theorem zX10_fresh : xZv mX10_fresh 0 := ⟨plainFor_of_name (by decide +kernel), ⟨by decide +kernel, by decide +kernel, by decide +kernel⟩, xinm (List.mem_append_right _ (List.mem_append_right _ (List.mem_append_right _ (List.mem_append_right _ (List.mem_append_left _ (List.mem_of_getElem? (l := tables_1_5) (i := 48) rfl)))))) rfl, xint 12 (by decide +kernel) rfl, xint 1007 (by decide +kernel) rfl, xins 29 (by decide +kernel) rfl⟩
theorem zX10_addThing : xZv mX10_addThing 2 := ⟨plainFor_of_name (by decide +kernel), ⟨by decide +kernel, by decide +kernel, by decide +kernel⟩, xinm (List.mem_append_right _ (List.mem_append_right _ (List.mem_append_right _ (List.mem_append_right _ (List.mem_append_left _ (List.mem_of_getElem? (l := tables_1_5) (i := 53) rfl)))))) rfl, xint 12 (by decide +kernel) rfl, xint 1012 (by decide +kernel) rfl, xins 30 (by decide +kernel) rfl⟩
theorem zX10_begin : xZv mX10_begin 3 := ⟨plainFor_of_name (by decide +kernel), ⟨by decide +kernel, by decide +kernel, by decide +kernel⟩, xinm (List.mem_append_right _ (List.mem_append_right _ (List.mem_append_right _ (List.mem_append_right _ (List.mem_append_left _ (List.mem_of_getElem? (l := tables_1_5) (i := 177) rfl)))))) rfl, xint 12 (by decide +kernel) rfl, xint 1135 (by decide +kernel) rfl, xint 1136 (by decide +kernel) rfl⟩
theorem zX10_isCell : xZv mX10_isCell 1 := ⟨plainFor_of_name (by decide +kernel), ⟨by decide +kernel, by decide +kernel, by decide +kernel⟩, xinm (List.mem_append_right _ (List.mem_append_right _ (List.mem_append_right _ (List.mem_append_right _ (List.mem_append_left _ (List.mem_of_getElem? (l := tables_1_5) (i := 188) rfl)))))) rfl, xint 12 (by decide +kernel) rfl, xint 1147 (by decide +kernel) rfl, xins 31 (by decide +kernel) rfl⟩
theorem zX10_isStarted : xZv mX10_isStarted 0 := ⟨plainFor_of_name (by decide +kernel), ⟨by decide +kernel, by decide +kernel, by decide +kernel⟩, xinm (List.mem_append_right _ (List.mem_append_right _ (List.mem_append_right _ (List.mem_append_right _ (List.mem_append_left _ (List.mem_of_getElem? (l := tables_1_5) (i := 192) rfl)))))) rfl, xint 12 (by decide +kernel) rfl, xint 1151 (by decide +kernel) rfl, xins 32 (by decide +kernel) rfl⟩
theorem zX10_hasThing : xZv mX10_hasThing 1 := ⟨plainFor_of_name (by decide +kernel), ⟨by decide +kernel, by decide +kernel, by decide +kernel⟩, xinm (List.mem_append_right _ (List.mem_append_right _ (List.mem_append_right _ (List.mem_append_right _ (List.mem_append_left _ (List.mem_of_getElem? (l := tables_1_5) (i := 196) rfl)))))) rfl, xint 12 (by decide +kernel) rfl, xint 1155 (by decide +kernel) rfl, xins 33 (by decide +kernel) rfl⟩
theorem zX10_wall : xZv mX10_wall 1 := ⟨plainFor_of_name (by decide +kernel), ⟨by decide +kernel, by decide +kernel, by decide +kernel⟩, xinm (List.mem_append_right _ (List.mem_append_right _ (List.mem_append_right _ (List.mem_append_right _ (List.mem_append_left _ (List.mem_of_getElem? (l := tables_1_5) (i := 184) rfl)))))) rfl, xint 12 (by decide +kernel) rfl, xint 1142 (by decide +kernel) rfl, xint 1143 (by decide +kernel) rfl⟩
theorem zX10_door : xZv mX10_door 2 := ⟨plainFor_of_name (by decide +kernel), ⟨by decide +kernel, by decide +kernel, by decide +kernel⟩, xinm (List.mem_append_right _ (List.mem_append_right _ (List.mem_append_right _ (List.mem_append_right _ (List.mem_append_left _ (List.mem_of_getElem? (l := tables_1_5) (i := 200) rfl)))))) rfl, xint 12 (by decide +kernel) rfl, xint 1158 (by decide +kernel) rfl, xint 1159 (by decide +kernel) rfl⟩
theorem zX10_plate : xZv mX10_plate 2 := ⟨plainFor_of_name (by decide +kernel), ⟨by decide +kernel, by decide +kernel, by decide +kernel⟩, xinm (List.mem_append_right _ (List.mem_append_right _ (List.mem_append_right _ (List.mem_append_right _ (List.mem_append_left _ (List.mem_of_getElem? (l := tables_1_5) (i := 204) rfl)))))) rfl, xint 12 (by decide +kernel) rfl, xint 1162 (by decide +kernel) rfl, xint 1163 (by decide +kernel) rfl⟩
theorem zX10_place : xZv mX10_place 2 := ⟨plainFor_of_name (by decide +kernel), ⟨by decide +kernel, by decide +kernel, by decide +kernel⟩, xinm (List.mem_append_right _ (List.mem_append_right _ (List.mem_append_right _ (List.mem_append_right _ (List.mem_append_left _ (List.mem_of_getElem? (l := tables_1_5) (i := 216) rfl)))))) rfl, xint 12 (by decide +kernel) rfl, xint 1174 (by decide +kernel) rfl, xint 1175 (by decide +kernel) rfl⟩
theorem zX10_late : xZv mX10_late 1 := ⟨plainFor_of_name (by decide +kernel), ⟨by decide +kernel, by decide +kernel, by decide +kernel⟩, xinm (List.mem_append_right _ (List.mem_append_right _ (List.mem_append_right _ (List.mem_append_right _ (List.mem_append_left _ (List.mem_of_getElem? (l := tables_1_5) (i := 224) rfl)))))) rfl, xint 12 (by decide +kernel) rfl, xint 1182 (by decide +kernel) rfl, xint 1183 (by decide +kernel) rfl⟩
theorem zX10_risk : xZv mX10_risk 1 := ⟨plainFor_of_name (by decide +kernel), ⟨by decide +kernel, by decide +kernel, by decide +kernel⟩, xinm (List.mem_append_right _ (List.mem_append_right _ (List.mem_append_right _ (List.mem_append_right _ (List.mem_append_left _ (List.mem_of_getElem? (l := tables_1_5) (i := 228) rfl)))))) rfl, xint 12 (by decide +kernel) rfl, xint 1186 (by decide +kernel) rfl, xint 1187 (by decide +kernel) rfl⟩
theorem zX10_stands : xZv mX10_stands 2 := ⟨plainFor_of_name (by decide +kernel), ⟨by decide +kernel, by decide +kernel, by decide +kernel⟩, xinm (List.mem_append_right _ (List.mem_append_right _ (List.mem_append_right _ (List.mem_append_right _ (List.mem_append_left _ (List.mem_of_getElem? (l := tables_1_5) (i := 212) rfl)))))) rfl, xint 12 (by decide +kernel) rfl, xint 1171 (by decide +kernel) rfl, xins 35 (by decide +kernel) rfl⟩
theorem zX10_lies : xZv mX10_lies 2 := ⟨plainFor_of_name (by decide +kernel), ⟨by decide +kernel, by decide +kernel, by decide +kernel⟩, xinm (List.mem_append_right _ (List.mem_append_right _ (List.mem_append_right _ (List.mem_append_right _ (List.mem_append_right _ (List.mem_append_left _ (List.mem_of_getElem? (l := tables_1_6) (i := 45) rfl))))))) rfl, xint 12 (by decide +kernel) rfl, xint 1244 (by decide +kernel) rfl, xins 47 (by decide +kernel) rfl⟩
theorem zX10_standingIn : xZv mX10_standingIn 2 := ⟨plainFor_of_name (by decide +kernel), ⟨by decide +kernel, by decide +kernel, by decide +kernel⟩, xinm (List.mem_append_right _ (List.mem_append_right _ (List.mem_append_right _ (List.mem_append_right _ (List.mem_append_left _ (List.mem_of_getElem? (l := tables_1_5) (i := 220) rfl)))))) rfl, xint 12 (by decide +kernel) rfl, xint 1179 (by decide +kernel) rfl, xins 36 (by decide +kernel) rfl⟩
theorem zX10_isShut : xZv mX10_isShut 2 := ⟨plainFor_of_name (by decide +kernel), ⟨by decide +kernel, by decide +kernel, by decide +kernel⟩, xinm (List.mem_append_right _ (List.mem_append_right _ (List.mem_append_right _ (List.mem_append_right _ (List.mem_append_right _ (List.mem_append_left _ (List.mem_of_getElem? (l := tables_1_6) (i := 37) rfl))))))) rfl, xint 12 (by decide +kernel) rfl, xint 1236 (by decide +kernel) rfl, xins 45 (by decide +kernel) rfl⟩
theorem zX10_bars : xZv mX10_bars 2 := ⟨plainFor_of_name (by decide +kernel), ⟨by decide +kernel, by decide +kernel, by decide +kernel⟩, xinm (List.mem_append_right _ (List.mem_append_right _ (List.mem_append_right _ (List.mem_append_right _ (List.mem_append_right _ (List.mem_append_left _ (List.mem_of_getElem? (l := tables_1_6) (i := 33) rfl))))))) rfl, xint 12 (by decide +kernel) rfl, xint 1232 (by decide +kernel) rfl, xins 44 (by decide +kernel) rfl⟩
theorem zX10_nextTo : xZv mX10_nextTo 2 := ⟨plainFor_of_name (by decide +kernel), ⟨by decide +kernel, by decide +kernel, by decide +kernel⟩, xinm (List.mem_append_right _ (List.mem_append_right _ (List.mem_append_right _ (List.mem_append_right _ (List.mem_append_right _ (List.mem_append_left _ (List.mem_of_getElem? (l := tables_1_6) (i := 13) rfl))))))) rfl, xint 12 (by decide +kernel) rfl, xint 1212 (by decide +kernel) rfl, xins 39 (by decide +kernel) rfl⟩
theorem zX10_amount : xZs mX10_amount 1 := ⟨plainFor_of_name (by decide +kernel), ⟨by decide +kernel, by decide +kernel, by decide +kernel⟩, xinm (List.mem_append_right _ (List.mem_append_right _ (List.mem_append_right _ (List.mem_append_right _ (List.mem_append_right _ (List.mem_append_left _ (List.mem_of_getElem? (l := tables_1_6) (i := 84) rfl))))))) rfl, xint 12 (by decide +kernel) rfl, xint 1283 (by decide +kernel) rfl⟩
theorem zX10_seesCell : xZv mX10_seesCell 4 := ⟨plainFor_of_name (by decide +kernel), ⟨by decide +kernel, by decide +kernel, by decide +kernel⟩, xinm (List.mem_append_right _ (List.mem_append_right _ (List.mem_append_right _ (List.mem_append_right _ (List.mem_append_right _ (List.mem_append_left _ (List.mem_of_getElem? (l := tables_1_6) (i := 81) rfl))))))) rfl, xint 12 (by decide +kernel) rfl, xint 1280 (by decide +kernel) rfl, xins 56 (by decide +kernel) rfl⟩
theorem zX10_thingSees : xZv mX10_thingSees 3 := ⟨plainFor_of_name (by decide +kernel), ⟨by decide +kernel, by decide +kernel, by decide +kernel⟩, xinm (List.mem_append_right _ (List.mem_append_right _ (List.mem_append_right _ (List.mem_append_right _ (List.mem_append_right _ (List.mem_append_left _ (List.mem_of_getElem? (l := tables_1_6) (i := 77) rfl))))))) rfl, xint 12 (by decide +kernel) rfl, xint 1276 (by decide +kernel) rfl, xins 55 (by decide +kernel) rfl⟩
theorem zX10_lose : xZv mX10_lose 3 := ⟨plainFor_of_name (by decide +kernel), ⟨by decide +kernel, by decide +kernel, by decide +kernel⟩, xinm (List.mem_append_right _ (List.mem_append_right _ (List.mem_append_right _ (List.mem_append_right _ (List.mem_append_right _ (List.mem_append_left _ (List.mem_of_getElem? (l := tables_1_6) (i := 49) rfl))))))) rfl, xint 12 (by decide +kernel) rfl, xint 1248 (by decide +kernel) rfl, xins 48 (by decide +kernel) rfl⟩
theorem zX10_drop : xZv mX10_drop 2 := ⟨plainFor_of_name (by decide +kernel), ⟨by decide +kernel, by decide +kernel, by decide +kernel⟩, xinm (List.mem_append_right _ (List.mem_append_right _ (List.mem_append_right _ (List.mem_append_right _ (List.mem_append_right _ (List.mem_append_left _ (List.mem_of_getElem? (l := tables_1_6) (i := 53) rfl))))))) rfl, xint 12 (by decide +kernel) rfl, xint 1252 (by decide +kernel) rfl, xins 49 (by decide +kernel) rfl⟩
theorem zX10_goTo : xZv mX10_goTo 3 := ⟨plainFor_of_name (by decide +kernel), ⟨by decide +kernel, by decide +kernel, by decide +kernel⟩, xinm (List.mem_append_right _ (List.mem_append_right _ (List.mem_append_right _ (List.mem_append_right _ (List.mem_append_right _ (List.mem_append_left _ (List.mem_of_getElem? (l := tables_1_6) (i := 41) rfl))))))) rfl, xint 12 (by decide +kernel) rfl, xint 1240 (by decide +kernel) rfl, xins 46 (by decide +kernel) rfl⟩
theorem zX10_isFree : xZv mX10_isFree 2 := ⟨plainFor_of_name (by decide +kernel), ⟨by decide +kernel, by decide +kernel, by decide +kernel⟩, xinm (List.mem_append_right _ (List.mem_append_right _ (List.mem_append_right _ (List.mem_append_right _ (List.mem_append_right _ (List.mem_append_left _ (List.mem_of_getElem? (l := tables_1_6) (i := 29) rfl))))))) rfl, xint 12 (by decide +kernel) rfl, xint 1228 (by decide +kernel) rfl, xins 43 (by decide +kernel) rfl⟩
theorem zX10_shoot : xZv mX10_shoot 3 := ⟨plainFor_of_name (by decide +kernel), ⟨by decide +kernel, by decide +kernel, by decide +kernel⟩, xinm (List.mem_append_right _ (List.mem_append_right _ (List.mem_append_right _ (List.mem_append_right _ (List.mem_append_right _ (List.mem_append_left _ (List.mem_of_getElem? (l := tables_1_6) (i := 57) rfl))))))) rfl, xint 12 (by decide +kernel) rfl, xint 1256 (by decide +kernel) rfl, xins 50 (by decide +kernel) rfl⟩
theorem zX10_throwIt : xZv mX10_throwIt 3 := ⟨plainFor_of_name (by decide +kernel), ⟨by decide +kernel, by decide +kernel, by decide +kernel⟩, xinm (List.mem_append_right _ (List.mem_append_right _ (List.mem_append_right _ (List.mem_append_right _ (List.mem_append_right _ (List.mem_append_left _ (List.mem_of_getElem? (l := tables_1_6) (i := 65) rfl))))))) rfl, xint 12 (by decide +kernel) rfl, xint 1264 (by decide +kernel) rfl, xins 52 (by decide +kernel) rfl⟩
theorem zX10_take : xZv mX10_take 2 := ⟨plainFor_of_name (by decide +kernel), ⟨by decide +kernel, by decide +kernel, by decide +kernel⟩, xinm (List.mem_append_right _ (List.mem_append_right _ (List.mem_append_right _ (List.mem_append_right _ (List.mem_append_right _ (List.mem_append_left _ (List.mem_of_getElem? (l := tables_1_6) (i := 61) rfl))))))) rfl, xint 12 (by decide +kernel) rfl, xint 1260 (by decide +kernel) rfl, xins 51 (by decide +kernel) rfl⟩
theorem zX10_does : xZv mX10_does 3 := ⟨plainFor_of_name (by decide +kernel), ⟨by decide +kernel, by decide +kernel, by decide +kernel⟩, xinm (List.mem_append_right _ (List.mem_append_right _ (List.mem_append_right _ (List.mem_append_right _ (List.mem_append_right _ (List.mem_append_left _ (List.mem_of_getElem? (l := tables_1_6) (i := 25) rfl))))))) rfl, xint 12 (by decide +kernel) rfl, xint 1224 (by decide +kernel) rfl, xins 42 (by decide +kernel) rfl⟩
theorem zX10_far : xZv mX10_far 2 := ⟨plainFor_of_name (by decide +kernel), ⟨by decide +kernel, by decide +kernel, by decide +kernel⟩, xinm (List.mem_append_right _ (List.mem_append_right _ (List.mem_append_right _ (List.mem_append_right _ (List.mem_append_right _ (List.mem_append_left _ (List.mem_of_getElem? (l := tables_1_6) (i := 91) rfl))))))) rfl, xint 12 (by decide +kernel) rfl, xint 1290 (by decide +kernel) rfl, xins 57 (by decide +kernel) rfl⟩
theorem zX10_prey : xZv mX10_prey 2 := ⟨plainFor_of_name (by decide +kernel), ⟨by decide +kernel, by decide +kernel, by decide +kernel⟩, xinm (List.mem_append_right _ (List.mem_append_right _ (List.mem_append_right _ (List.mem_append_right _ (List.mem_append_right _ (List.mem_append_left _ (List.mem_of_getElem? (l := tables_1_6) (i := 73) rfl))))))) rfl, xint 12 (by decide +kernel) rfl, xint 1272 (by decide +kernel) rfl, xins 54 (by decide +kernel) rfl⟩
theorem zX10_hunt : xZv mX10_hunt 2 := ⟨plainFor_of_name (by decide +kernel), ⟨by decide +kernel, by decide +kernel, by decide +kernel⟩, xinm (List.mem_append_right _ (List.mem_append_right _ (List.mem_append_right _ (List.mem_append_right _ (List.mem_append_right _ (List.mem_append_left _ (List.mem_of_getElem? (l := tables_1_6) (i := 69) rfl))))))) rfl, xint 12 (by decide +kernel) rfl, xint 1268 (by decide +kernel) rfl, xins 53 (by decide +kernel) rfl⟩
theorem zX10_learn : xZv mX10_learn 1 := ⟨plainFor_of_name (by decide +kernel), ⟨by decide +kernel, by decide +kernel, by decide +kernel⟩, xinm (List.mem_append_right _ (List.mem_append_right _ (List.mem_append_right _ (List.mem_append_right _ (List.mem_append_left _ (List.mem_of_getElem? (l := tables_1_5) (i := 208) rfl)))))) rfl, xint 12 (by decide +kernel) rfl, xint 1167 (by decide +kernel) rfl, xins 34 (by decide +kernel) rfl⟩
theorem zX10_work : xZv mX10_work 1 := ⟨plainFor_of_name (by decide +kernel), ⟨by decide +kernel, by decide +kernel, by decide +kernel⟩, xinm (List.mem_append_right _ (List.mem_append_right _ (List.mem_append_right _ (List.mem_append_right _ (List.mem_append_right _ (List.mem_append_left _ (List.mem_of_getElem? (l := tables_1_6) (i := 21) rfl))))))) rfl, xint 12 (by decide +kernel) rfl, xint 1220 (by decide +kernel) rfl, xins 41 (by decide +kernel) rfl⟩
theorem zX10_digestOf : xZv mX10_digestOf 1 := ⟨plainFor_of_name (by decide +kernel), ⟨by decide +kernel, by decide +kernel, by decide +kernel⟩, xinm (List.mem_append_right _ (List.mem_append_right _ (List.mem_append_right _ (List.mem_append_right _ (List.mem_append_right _ (List.mem_append_left _ (List.mem_of_getElem? (l := tables_1_6) (i := 177) rfl))))))) rfl, xint 12 (by decide +kernel) rfl, xint 1376 (by decide +kernel) rfl, xins 70 (by decide +kernel) rfl⟩
theorem zX10_letterOf : xZv mX10_letterOf 2 := ⟨plainFor_of_name (by decide +kernel), ⟨by decide +kernel, by decide +kernel, by decide +kernel⟩, xinm (List.mem_append_right _ (List.mem_append_right _ (List.mem_append_right _ (List.mem_append_right _ (List.mem_append_right _ (List.mem_append_left _ (List.mem_of_getElem? (l := tables_1_6) (i := 169) rfl))))))) rfl, xint 12 (by decide +kernel) rfl, xint 1368 (by decide +kernel) rfl, xins 69 (by decide +kernel) rfl⟩
theorem zX10_mapTold : xZv mX10_mapTold 2 := ⟨plainFor_of_name (by decide +kernel), ⟨by decide +kernel, by decide +kernel, by decide +kernel⟩, xinm (List.mem_append_right _ (List.mem_append_right _ (List.mem_append_right _ (List.mem_append_right _ (List.mem_append_right _ (List.mem_append_left _ (List.mem_of_getElem? (l := tables_1_6) (i := 157) rfl))))))) rfl, xint 12 (by decide +kernel) rfl, xint 1356 (by decide +kernel) rfl, xins 67 (by decide +kernel) rfl⟩
theorem zX10_isTold : xZv mX10_isTold 3 := ⟨plainFor_of_name (by decide +kernel), ⟨by decide +kernel, by decide +kernel, by decide +kernel⟩, xinm (List.mem_append_right _ (List.mem_append_right _ (List.mem_append_right _ (List.mem_append_right _ (List.mem_append_right _ (List.mem_append_left _ (List.mem_of_getElem? (l := tables_1_6) (i := 153) rfl))))))) rfl, xint 12 (by decide +kernel) rfl, xint 1352 (by decide +kernel) rfl, xins 66 (by decide +kernel) rfl⟩
theorem zX10_pack : xZv mX10_pack 5 := ⟨plainFor_of_name (by decide +kernel), ⟨by decide +kernel, by decide +kernel, by decide +kernel⟩, xinm (List.mem_append_right _ (List.mem_append_right _ (List.mem_append_right _ (List.mem_append_right _ (List.mem_append_left _ (List.mem_of_getElem? (l := tables_1_5) (i := 233) rfl)))))) rfl, xint 12 (by decide +kernel) rfl, xint 1191 (by decide +kernel) rfl, xint 1192 (by decide +kernel) rfl⟩
theorem zX10_part : xZs mX10_part 3 := ⟨plainFor_of_name (by decide +kernel), ⟨by decide +kernel, by decide +kernel, by decide +kernel⟩, xinm (List.mem_append_right _ (List.mem_append_right _ (List.mem_append_right _ (List.mem_append_right _ (List.mem_append_right _ (List.mem_append_left _ (List.mem_of_getElem? (l := tables_1_6) (i := 5) rfl))))))) rfl, xint 12 (by decide +kernel) rfl, xint 1204 (by decide +kernel) rfl⟩
theorem zX10_lack : xZv mX10_lack 2 := ⟨plainFor_of_name (by decide +kernel), ⟨by decide +kernel, by decide +kernel, by decide +kernel⟩, xinm (List.mem_append_right _ (List.mem_append_right _ (List.mem_append_right _ (List.mem_append_right _ (List.mem_append_right _ (List.mem_append_left _ (List.mem_of_getElem? (l := tables_1_6) (i := 2) rfl))))))) rfl, xint 12 (by decide +kernel) rfl, xint 1201 (by decide +kernel) rfl, xins 37 (by decide +kernel) rfl⟩
theorem zX10_isCrafted : xZv mX10_isCrafted 4 := ⟨plainFor_of_name (by decide +kernel), ⟨by decide +kernel, by decide +kernel, by decide +kernel⟩, xinm (List.mem_append_right _ (List.mem_append_right _ (List.mem_append_right _ (List.mem_append_right _ (List.mem_append_right _ (List.mem_append_left _ (List.mem_of_getElem? (l := tables_1_6) (i := 9) rfl))))))) rfl, xint 12 (by decide +kernel) rfl, xint 1208 (by decide +kernel) rfl, xins 38 (by decide +kernel) rfl⟩
theorem zX10_goBack : xZv mX10_goBack 1 := ⟨plainFor_of_name (by decide +kernel), ⟨by decide +kernel, by decide +kernel, by decide +kernel⟩, xinm (List.mem_append_right _ (List.mem_append_right _ (List.mem_append_right _ (List.mem_append_right _ (List.mem_append_right _ (List.mem_append_left _ (List.mem_of_getElem? (l := tables_1_6) (i := 17) rfl))))))) rfl, xint 12 (by decide +kernel) rfl, xint 1216 (by decide +kernel) rfl, xins 40 (by decide +kernel) rfl⟩
theorem zX10_feed : xZv mX10_feed 2 := ⟨plainFor_of_name (by decide +kernel), ⟨by decide +kernel, by decide +kernel, by decide +kernel⟩, xinm (List.mem_append_right _ (List.mem_append_right _ (List.mem_append_right _ (List.mem_append_right _ (List.mem_append_left _ (List.mem_of_getElem? (l := tables_1_5) (i := 238) rfl)))))) rfl, xint 12 (by decide +kernel) rfl, xint 1196 (by decide +kernel) rfl, xint 1197 (by decide +kernel) rfl⟩
theorem zX10_step : xZv mX10_step 0 := ⟨plainFor_of_name (by decide +kernel), ⟨by decide +kernel, by decide +kernel, by decide +kernel⟩, xinm (List.mem_append_right _ (List.mem_append_right _ (List.mem_append_right _ (List.mem_append_right _ (List.mem_append_right _ (List.mem_append_left _ (List.mem_of_getElem? (l := tables_1_6) (i := 95) rfl))))))) rfl, xint 12 (by decide +kernel) rfl, xint 1293 (by decide +kernel) rfl, xint 1294 (by decide +kernel) rfl⟩
theorem zX10_tailOf : xZv mX10_tailOf 1 := ⟨plainFor_of_name (by decide +kernel), ⟨by decide +kernel, by decide +kernel, by decide +kernel⟩, xinm (List.mem_append_right _ (List.mem_append_right _ (List.mem_append_right _ (List.mem_append_right _ (List.mem_append_right _ (List.mem_append_left _ (List.mem_of_getElem? (l := tables_1_6) (i := 111) rfl))))))) rfl, xint 12 (by decide +kernel) rfl, xint 1310 (by decide +kernel) rfl, xins 61 (by decide +kernel) rfl⟩
theorem zX10_tried : xZv mX10_tried 3 := ⟨plainFor_of_name (by decide +kernel), ⟨by decide +kernel, by decide +kernel, by decide +kernel⟩, xinm (List.mem_append_right _ (List.mem_append_right _ (List.mem_append_right _ (List.mem_append_right _ (List.mem_append_right _ (List.mem_append_left _ (List.mem_of_getElem? (l := tables_1_6) (i := 107) rfl))))))) rfl, xint 12 (by decide +kernel) rfl, xint 1306 (by decide +kernel) rfl, xins 60 (by decide +kernel) rfl⟩
theorem zX10_look : xZv mX10_look 1 := ⟨plainFor_of_name (by decide +kernel), ⟨by decide +kernel, by decide +kernel, by decide +kernel⟩, xinm (List.mem_append_right _ (List.mem_append_right _ (List.mem_append_right _ (List.mem_append_right _ (List.mem_append_right _ (List.mem_append_left _ (List.mem_of_getElem? (l := tables_1_6) (i := 99) rfl))))))) rfl, xint 12 (by decide +kernel) rfl, xint 1298 (by decide +kernel) rfl, xins 58 (by decide +kernel) rfl⟩
theorem zX10_foresee : xZv mX10_foresee 4 := ⟨plainFor_of_name (by decide +kernel), ⟨by decide +kernel, by decide +kernel, by decide +kernel⟩, xinm (List.mem_append_right _ (List.mem_append_right _ (List.mem_append_right _ (List.mem_append_right _ (List.mem_append_right _ (List.mem_append_left _ (List.mem_of_getElem? (l := tables_1_6) (i := 103) rfl))))))) rfl, xint 12 (by decide +kernel) rfl, xint 1302 (by decide +kernel) rfl, xins 59 (by decide +kernel) rfl⟩
theorem zX10_guess : xZv mX10_guess 3 := ⟨plainFor_of_name (by decide +kernel), ⟨by decide +kernel, by decide +kernel, by decide +kernel⟩, xinm (List.mem_append_right _ (List.mem_append_right _ (List.mem_append_right _ (List.mem_append_right _ (List.mem_append_right _ (List.mem_append_left _ (List.mem_of_getElem? (l := tables_1_6) (i := 115) rfl))))))) rfl, xint 12 (by decide +kernel) rfl, xint 1314 (by decide +kernel) rfl, xins 62 (by decide +kernel) rfl⟩
theorem zX10_isPlayer : xZv mX10_isPlayer 1 := ⟨plainFor_of_name (by decide +kernel), ⟨by decide +kernel, by decide +kernel, by decide +kernel⟩, xinm (List.mem_append_right _ (List.mem_append_right _ (List.mem_append_right _ (List.mem_append_right _ (List.mem_append_right _ (List.mem_append_left _ (List.mem_of_getElem? (l := tables_1_6) (i := 125) rfl))))))) rfl, xint 12 (by decide +kernel) rfl, xint 1324 (by decide +kernel) rfl, xins 63 (by decide +kernel) rfl⟩
theorem zX10_body : xZv mX10_body 2 := ⟨plainFor_of_name (by decide +kernel), ⟨by decide +kernel, by decide +kernel, by decide +kernel⟩, xinm (List.mem_append_right _ (List.mem_append_right _ (List.mem_append_right _ (List.mem_append_right _ (List.mem_append_right _ (List.mem_append_left _ (List.mem_of_getElem? (l := tables_1_6) (i := 121) rfl))))))) rfl, xint 12 (by decide +kernel) rfl, xint 1319 (by decide +kernel) rfl, xint 1320 (by decide +kernel) rfl⟩
theorem zX10_thing : xZv mX10_thing 2 := ⟨plainFor_of_name (by decide +kernel), ⟨by decide +kernel, by decide +kernel, by decide +kernel⟩, xinm (List.mem_append_right _ (List.mem_append_right _ (List.mem_append_right _ (List.mem_append_right _ (List.mem_append_right _ (List.mem_append_left _ (List.mem_of_getElem? (l := tables_1_6) (i := 129) rfl))))))) rfl, xint 12 (by decide +kernel) rfl, xint 1327 (by decide +kernel) rfl, xint 1328 (by decide +kernel) rfl⟩
theorem zX10_open : xZv mX10_open 1 := ⟨plainFor_of_name (by decide +kernel), ⟨by decide +kernel, by decide +kernel, by decide +kernel⟩, xinm (List.mem_append_right _ (List.mem_append_right _ (List.mem_append_right _ (List.mem_append_right _ (List.mem_append_right _ (List.mem_append_left _ (List.mem_of_getElem? (l := tables_1_6) (i := 133) rfl))))))) rfl, xint 12 (by decide +kernel) rfl, xint 1331 (by decide +kernel) rfl, xint 1332 (by decide +kernel) rfl⟩
theorem zX10_seesNow : xZv mX10_seesNow 2 := ⟨plainFor_of_name (by decide +kernel), ⟨by decide +kernel, by decide +kernel, by decide +kernel⟩, xinm (List.mem_append_right _ (List.mem_append_right _ (List.mem_append_right _ (List.mem_append_right _ (List.mem_append_right _ (List.mem_append_left _ (List.mem_of_getElem? (l := tables_1_6) (i := 141) rfl))))))) rfl, xint 12 (by decide +kernel) rfl, xint 1340 (by decide +kernel) rfl, xins 64 (by decide +kernel) rfl⟩
theorem zX10_sees : xZv mX10_sees 2 := ⟨plainFor_of_name (by decide +kernel), ⟨by decide +kernel, by decide +kernel, by decide +kernel⟩, xinm (List.mem_append_right _ (List.mem_append_right _ (List.mem_append_right _ (List.mem_append_right _ (List.mem_append_right _ (List.mem_append_left _ (List.mem_of_getElem? (l := tables_1_6) (i := 137) rfl))))))) rfl, xint 12 (by decide +kernel) rfl, xint 1335 (by decide +kernel) rfl, xint 1336 (by decide +kernel) rfl⟩
theorem zX10_toldOf : xZv mX10_toldOf 2 := ⟨plainFor_of_name (by decide +kernel), ⟨by decide +kernel, by decide +kernel, by decide +kernel⟩, xinm (List.mem_append_right _ (List.mem_append_right _ (List.mem_append_right _ (List.mem_append_right _ (List.mem_append_right _ (List.mem_append_left _ (List.mem_of_getElem? (l := tables_1_6) (i := 149) rfl))))))) rfl, xint 12 (by decide +kernel) rfl, xint 1348 (by decide +kernel) rfl, xins 65 (by decide +kernel) rfl⟩
theorem zX10_told : xZv mX10_told 2 := ⟨plainFor_of_name (by decide +kernel), ⟨by decide +kernel, by decide +kernel, by decide +kernel⟩, xinm (List.mem_append_right _ (List.mem_append_right _ (List.mem_append_right _ (List.mem_append_right _ (List.mem_append_right _ (List.mem_append_left _ (List.mem_of_getElem? (l := tables_1_6) (i := 145) rfl))))))) rfl, xint 12 (by decide +kernel) rfl, xint 1343 (by decide +kernel) rfl, xint 1344 (by decide +kernel) rfl⟩
theorem zX10_isNear : xZv mX10_isNear 1 := ⟨plainFor_of_name (by decide +kernel), ⟨by decide +kernel, by decide +kernel, by decide +kernel⟩, xinm (List.mem_append_right _ (List.mem_append_right _ (List.mem_append_right _ (List.mem_append_right _ (List.mem_append_right _ (List.mem_append_left _ (List.mem_of_getElem? (l := tables_1_6) (i := 165) rfl))))))) rfl, xint 12 (by decide +kernel) rfl, xint 1364 (by decide +kernel) rfl, xins 68 (by decide +kernel) rfl⟩
theorem zX10_letter : xZv mX10_letter 2 := ⟨plainFor_of_name (by decide +kernel), ⟨by decide +kernel, by decide +kernel, by decide +kernel⟩, xinm (List.mem_append_right _ (List.mem_append_right _ (List.mem_append_right _ (List.mem_append_right _ (List.mem_append_right _ (List.mem_append_left _ (List.mem_of_getElem? (l := tables_1_6) (i := 161) rfl))))))) rfl, xint 12 (by decide +kernel) rfl, xint 1359 (by decide +kernel) rfl, xint 1360 (by decide +kernel) rfl⟩
theorem zX10_digest : xZv mX10_digest 1 := ⟨plainFor_of_name (by decide +kernel), ⟨by decide +kernel, by decide +kernel, by decide +kernel⟩, xinm (List.mem_append_right _ (List.mem_append_right _ (List.mem_append_right _ (List.mem_append_right _ (List.mem_append_right _ (List.mem_append_left _ (List.mem_of_getElem? (l := tables_1_6) (i := 173) rfl))))))) rfl, xint 12 (by decide +kernel) rfl, xint 1371 (by decide +kernel) rfl, xint 1372 (by decide +kernel) rfl⟩
theorem zX10_replay : xZv mX10_replay 1 := ⟨plainFor_of_name (by decide +kernel), ⟨by decide +kernel, by decide +kernel, by decide +kernel⟩, xinm (List.mem_append_right _ (List.mem_append_right _ (List.mem_append_right _ (List.mem_append_right _ (List.mem_append_right _ (List.mem_append_left _ (List.mem_of_getElem? (l := tables_1_6) (i := 181) rfl))))))) rfl, xint 12 (by decide +kernel) rfl, xint 1379 (by decide +kernel) rfl, xint 1380 (by decide +kernel) rfl⟩
theorem zX10_fall : xZv mX10_fall 0 := ⟨plainFor_of_name (by decide +kernel), ⟨by decide +kernel, by decide +kernel, by decide +kernel⟩, xinm (List.mem_append_right _ (List.mem_append_right _ (List.mem_append_right _ (List.mem_append_right _ (List.mem_append_right _ (List.mem_append_left _ (List.mem_of_getElem? (l := tables_1_6) (i := 185) rfl))))))) rfl, xint 12 (by decide +kernel) rfl, xint 1383 (by decide +kernel) rfl, xint 1384 (by decide +kernel) rfl⟩
theorem zX10_act : xZv mX10_act 2 := ⟨plainFor_of_name (by decide +kernel), ⟨by decide +kernel, by decide +kernel, by decide +kernel⟩, xinm (List.mem_append_right _ (List.mem_append_right _ (List.mem_append_right _ (List.mem_append_right _ (List.mem_append_right _ (List.mem_append_left _ (List.mem_of_getElem? (l := tables_1_6) (i := 189) rfl))))))) rfl, xint 12 (by decide +kernel) rfl, xint 1387 (by decide +kernel) rfl, xint 1388 (by decide +kernel) rfl⟩
theorem zX10_hit : xZv mX10_hit 2 := ⟨plainFor_of_name (by decide +kernel), ⟨by decide +kernel, by decide +kernel, by decide +kernel⟩, xinm (List.mem_append_right _ (List.mem_append_right _ (List.mem_append_right _ (List.mem_append_right _ (List.mem_append_right _ (List.mem_append_left _ (List.mem_of_getElem? (l := tables_1_6) (i := 193) rfl))))))) rfl, xint 12 (by decide +kernel) rfl, xint 1391 (by decide +kernel) rfl, xint 1392 (by decide +kernel) rfl⟩
theorem zX10_taken : xZv mX10_taken 2 := ⟨plainFor_of_name (by decide +kernel), ⟨by decide +kernel, by decide +kernel, by decide +kernel⟩, xinm (List.mem_append_right _ (List.mem_append_right _ (List.mem_append_right _ (List.mem_append_right _ (List.mem_append_right _ (List.mem_append_left _ (List.mem_of_getElem? (l := tables_1_6) (i := 197) rfl))))))) rfl, xint 12 (by decide +kernel) rfl, xint 1395 (by decide +kernel) rfl, xint 1396 (by decide +kernel) rfl⟩
theorem zX10_back : xZv mX10_back 1 := ⟨plainFor_of_name (by decide +kernel), ⟨by decide +kernel, by decide +kernel, by decide +kernel⟩, xinm (List.mem_append_right _ (List.mem_append_right _ (List.mem_append_right _ (List.mem_append_right _ (List.mem_append_right _ (List.mem_append_left _ (List.mem_of_getElem? (l := tables_1_6) (i := 201) rfl))))))) rfl, xint 12 (by decide +kernel) rfl, xint 1399 (by decide +kernel) rfl, xint 1400 (by decide +kernel) rfl⟩
theorem zX10_watch : xZv mX10_watch 3 := ⟨plainFor_of_name (by decide +kernel), ⟨by decide +kernel, by decide +kernel, by decide +kernel⟩, xinm (List.mem_append_right _ (List.mem_append_right _ (List.mem_append_right _ (List.mem_append_right _ (List.mem_append_right _ (List.mem_append_left _ (List.mem_of_getElem? (l := tables_1_6) (i := 205) rfl))))))) rfl, xint 12 (by decide +kernel) rfl, xint 1403 (by decide +kernel) rfl, xint 1404 (by decide +kernel) rfl⟩
theorem zX10_fair : xZv mX10_fair 2 := ⟨plainFor_of_name (by decide +kernel), ⟨by decide +kernel, by decide +kernel, by decide +kernel⟩, xinm (List.mem_append_right _ (List.mem_append_right _ (List.mem_append_right _ (List.mem_append_right _ (List.mem_append_right _ (List.mem_append_left _ (List.mem_of_getElem? (l := tables_1_6) (i := 209) rfl))))))) rfl, xint 12 (by decide +kernel) rfl, xint 1407 (by decide +kernel) rfl, xint 1408 (by decide +kernel) rfl⟩
theorem zX10_isTape : xZs mX10_isTape 1 := ⟨plainFor_of_name (by decide +kernel), ⟨by decide +kernel, by decide +kernel, by decide +kernel⟩, xinm (List.mem_append_right _ (List.mem_append_right _ (List.mem_append_right _ (List.mem_append_right _ (List.mem_append_right _ (List.mem_append_left _ (List.mem_of_getElem? (l := tables_1_6) (i := 216) rfl))))))) rfl, xint 12 (by decide +kernel) rfl, xint 1415 (by decide +kernel) rfl⟩
theorem zX10_tape : xZv mX10_tape 3 := ⟨plainFor_of_name (by decide +kernel), ⟨by decide +kernel, by decide +kernel, by decide +kernel⟩, xinm (List.mem_append_right _ (List.mem_append_right _ (List.mem_append_right _ (List.mem_append_right _ (List.mem_append_right _ (List.mem_append_left _ (List.mem_of_getElem? (l := tables_1_6) (i := 213) rfl))))))) rfl, xint 12 (by decide +kernel) rfl, xint 1411 (by decide +kernel) rfl, xint 1412 (by decide +kernel) rfl⟩
theorem zX10_view : xZv mX10_view 2 := ⟨plainFor_of_name (by decide +kernel), ⟨by decide +kernel, by decide +kernel, by decide +kernel⟩, xinm (List.mem_append_right _ (List.mem_append_right _ (List.mem_append_right _ (List.mem_append_right _ (List.mem_append_right _ (List.mem_append_left _ (List.mem_of_getElem? (l := tables_1_6) (i := 224) rfl))))))) rfl, xint 12 (by decide +kernel) rfl, xint 1422 (by decide +kernel) rfl, xint 1423 (by decide +kernel) rfl⟩
theorem zX10_clear : xZv mX10_clear 1 := ⟨plainFor_of_name (by decide +kernel), ⟨by decide +kernel, by decide +kernel, by decide +kernel⟩, xinm (List.mem_append_right _ (List.mem_append_right _ (List.mem_append_right _ (List.mem_append_right _ (List.mem_append_right _ (List.mem_append_left _ (List.mem_of_getElem? (l := tables_1_6) (i := 228) rfl))))))) rfl, xint 12 (by decide +kernel) rfl, xint 1426 (by decide +kernel) rfl, xint 1427 (by decide +kernel) rfl⟩
theorem zX10_narrow : xZs mX10_narrow 2 := ⟨plainFor_of_name (by decide +kernel), ⟨by decide +kernel, by decide +kernel, by decide +kernel⟩, xinm (List.mem_append_right _ (List.mem_append_right _ (List.mem_append_right _ (List.mem_append_right _ (List.mem_append_right _ (List.mem_append_left _ (List.mem_of_getElem? (l := tables_1_6) (i := 235) rfl))))))) rfl, xint 12 (by decide +kernel) rfl, xint 1434 (by decide +kernel) rfl⟩
theorem zX10_put : xZv mX10_put 3 := ⟨plainFor_of_name (by decide +kernel), ⟨by decide +kernel, by decide +kernel, by decide +kernel⟩, xinm (List.mem_append_right _ (List.mem_append_right _ (List.mem_append_right _ (List.mem_append_right _ (List.mem_append_right _ (List.mem_append_left _ (List.mem_of_getElem? (l := tables_1_6) (i := 232) rfl))))))) rfl, xint 12 (by decide +kernel) rfl, xint 1430 (by decide +kernel) rfl, xint 1431 (by decide +kernel) rfl⟩
theorem zX10_at : xZv mX10_at 2 := ⟨plainFor_of_name (by decide +kernel), ⟨by decide +kernel, by decide +kernel, by decide +kernel⟩, xinm (List.mem_append_right _ (List.mem_append_right _ (List.mem_append_right _ (List.mem_append_right _ (List.mem_append_right _ (List.mem_append_left _ (List.mem_of_getElem? (l := tables_1_6) (i := 239) rfl))))))) rfl, xint 12 (by decide +kernel) rfl, xint 1437 (by decide +kernel) rfl, xint 1438 (by decide +kernel) rfl⟩
theorem zX10_copy : xZv mX10_copy 5 := ⟨plainFor_of_name (by decide +kernel), ⟨by decide +kernel, by decide +kernel, by decide +kernel⟩, xinm (List.mem_append_right _ (List.mem_append_right _ (List.mem_append_right _ (List.mem_append_right _ (List.mem_append_right _ (List.mem_append_right _ (List.mem_of_getElem? (l := tables_1_7) (i := 3) rfl))))))) rfl, xint 12 (by decide +kernel) rfl, xint 1441 (by decide +kernel) rfl, xint 1442 (by decide +kernel) rfl⟩
theorem zX10_play : xZv mX10_play 4 := ⟨plainFor_of_name (by decide +kernel), ⟨by decide +kernel, by decide +kernel, by decide +kernel⟩, xinm (List.mem_append_right _ (List.mem_append_right _ (List.mem_append_right _ (List.mem_append_right _ (List.mem_append_right _ (List.mem_append_right _ (List.mem_of_getElem? (l := tables_1_7) (i := 7) rfl))))))) rfl, xint 12 (by decide +kernel) rfl, xint 1445 (by decide +kernel) rfl, xint 1446 (by decide +kernel) rfl⟩
theorem zX10_kept : xZv mX10_kept 2 := ⟨plainFor_of_name (by decide +kernel), ⟨by decide +kernel, by decide +kernel, by decide +kernel⟩, xinm (List.mem_append_right _ (List.mem_append_right _ (List.mem_append_right _ (List.mem_append_right _ (List.mem_append_right _ (List.mem_append_right _ (List.mem_of_getElem? (l := tables_1_7) (i := 12) rfl))))))) rfl, xint 12 (by decide +kernel) rfl, xint 1450 (by decide +kernel) rfl, xint 1451 (by decide +kernel) rfl⟩
theorem zX10_toss : xZv mX10_toss 1 := ⟨plainFor_of_name (by decide +kernel), ⟨by decide +kernel, by decide +kernel, by decide +kernel⟩, xinm (List.mem_append_right _ (List.mem_append_right _ (List.mem_append_right _ (List.mem_append_right _ (List.mem_append_right _ (List.mem_append_right _ (List.mem_of_getElem? (l := tables_1_7) (i := 16) rfl))))))) rfl, xint 12 (by decide +kernel) rfl, xint 1454 (by decide +kernel) rfl, xint 1455 (by decide +kernel) rfl⟩
theorem zX10_count : xZv mX10_count 1 := ⟨plainFor_of_name (by decide +kernel), ⟨by decide +kernel, by decide +kernel, by decide +kernel⟩, xinm (List.mem_append_right _ (List.mem_append_right _ (List.mem_append_right _ (List.mem_append_right _ (List.mem_append_right _ (List.mem_append_right _ (List.mem_of_getElem? (l := tables_1_7) (i := 20) rfl))))))) rfl, xint 12 (by decide +kernel) rfl, xint 1458 (by decide +kernel) rfl, xint 1459 (by decide +kernel) rfl⟩
theorem zJ9_floorDiv_7cf53 : xZs mJ9_floorDiv_7cf53 2 := ⟨xmath rfl (by decide +kernel), ⟨by decide +kernel, by decide +kernel, by decide +kernel⟩, xinm (List.mem_append_right _ (List.mem_append_right _ (List.mem_append_left _ (List.mem_of_getElem? (l := tables_1_3) (i := 151) rfl)))) rfl, xint 14 (by decide +kernel) rfl, xint 630 (by decide +kernel) rfl⟩
theorem zJ9_abs_0f7a4 : xZs mJ9_abs_0f7a4 1 := ⟨xmath rfl (by decide +kernel), ⟨by decide +kernel, by decide +kernel, by decide +kernel⟩, xinm (List.mem_append_right _ (List.mem_append_right _ (List.mem_append_left _ (List.mem_of_getElem? (l := tables_1_3) (i := 145) rfl)))) rfl, xint 14 (by decide +kernel) rfl, xint 624 (by decide +kernel) rfl⟩
theorem zJ9_max_7cf53 : xZs mJ9_max_7cf53 2 := ⟨xmath rfl (by decide +kernel), ⟨by decide +kernel, by decide +kernel, by decide +kernel⟩, xinm (List.mem_append_right _ (List.mem_append_right _ (List.mem_append_left _ (List.mem_of_getElem? (l := tables_1_3) (i := 148) rfl)))) rfl, xint 14 (by decide +kernel) rfl, xint 627 (by decide +kernel) rfl⟩
theorem zJ9_min_7cf53 : xZs mJ9_min_7cf53 2 := ⟨xmath rfl (by decide +kernel), ⟨by decide +kernel, by decide +kernel, by decide +kernel⟩, xinm (List.mem_append_right _ (List.mem_append_right _ (List.mem_append_left _ (List.mem_of_getElem? (l := tables_1_3) (i := 224) rfl)))) rfl, xint 14 (by decide +kernel) rfl, xint 703 (by decide +kernel) rfl⟩
theorem zJ7_fill_d0a16 : xZs mJ7_fill_d0a16 2 := ⟨plainFor_of_name (by decide +kernel), ⟨by decide +kernel, by decide +kernel, by decide +kernel⟩, xinm (List.mem_append_right _ (List.mem_append_right _ (List.mem_append_right _ (List.mem_append_left _ (List.mem_of_getElem? (l := tables_1_4) (i := 125) rfl))))) rfl, xint 10 (by decide +kernel) rfl, xint 844 (by decide +kernel) rfl⟩
theorem zJ7_fill_53178 : xZs mJ7_fill_53178 2 := ⟨plainFor_of_name (by decide +kernel), ⟨by decide +kernel, by decide +kernel, by decide +kernel⟩, xinm (List.mem_append_right _ (List.mem_append_left _ (List.mem_of_getElem? (l := tables_1_2) (i := 53) rfl))) rfl, xint 10 (by decide +kernel) rfl, xint 292 (by decide +kernel) rfl⟩
theorem zJ7_fill_031fb : xZs mJ7_fill_031fb 2 := ⟨plainFor_of_name (by decide +kernel), ⟨by decide +kernel, by decide +kernel, by decide +kernel⟩, xinm (List.mem_append_right _ (List.mem_append_left _ (List.mem_of_getElem? (l := tables_1_2) (i := 91) rfl))) rfl, xint 10 (by decide +kernel) rfl, xint 330 (by decide +kernel) rfl⟩
