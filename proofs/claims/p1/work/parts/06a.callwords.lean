set_option maxRecDepth 20000 in
theorem ggX0_clearFor_J7_fill_53178 : GoodIn wsX0_clearFor wsJ7_fill_53178 := goodIn_r _ [10] (by decide +kernel) (by decide +kernel)
set_option maxRecDepth 20000 in
theorem gX0_clearFor_J7_fill_53178 : GoodIn wsX0_clearFor (va_wsS RX0 15 yJ7_fill_53178 wsJ7_fill_53178) := goodIn_app (goodIn_of _ (by decide +kernel)) ggX0_clearFor_J7_fill_53178
set_option maxRecDepth 20000 in
theorem ggX0_addLevel_X0_has : GoodIn wsX0_addLevel wsX0_has := goodIn_r _ [6, 7, 1, 8, 9] (by decide +kernel) (by decide +kernel)
set_option maxRecDepth 20000 in
theorem gX0_addLevel_X0_has : GoodIn wsX0_addLevel (wsV RX0 31 RX0 yX0_has wsX0_has) := goodIn_app (goodIn_of _ (by decide +kernel)) ggX0_addLevel_X0_has
set_option maxRecDepth 20000 in
theorem ggX0_levelsAt_X0_has : GoodIn wsX0_levelsAt wsX0_has := goodIn_r _ [6, 7, 1, 8, 9] (by decide +kernel) (by decide +kernel)
set_option maxRecDepth 20000 in
theorem gX0_levelsAt_X0_has : GoodIn wsX0_levelsAt (wsV RX0 31 RX0 yX0_has wsX0_has) := goodIn_app (goodIn_of _ (by decide +kernel)) ggX0_levelsAt_X0_has
set_option maxRecDepth 20000 in
theorem ggX0_isHighAt_X0_has : GoodIn wsX0_isHighAt wsX0_has := goodIn_r _ [6, 7, 1, 8, 9] (by decide +kernel) (by decide +kernel)
set_option maxRecDepth 20000 in
theorem gX0_isHighAt_X0_has : GoodIn wsX0_isHighAt (wsV RX0 31 RX0 yX0_has wsX0_has) := goodIn_app (goodIn_of _ (by decide +kernel)) ggX0_isHighAt_X0_has
set_option maxRecDepth 20000 in
theorem ggX0_changesAt_X0_isHighAt : GoodIn wsX0_changesAt wsX0_isHighAt := goodIn_r _ [5, 6, 7, 8, 9, 4, 10, 11, 12, 13] (by decide +kernel) (by decide +kernel)
set_option maxRecDepth 20000 in
theorem gX0_changesAt_X0_isHighAt : GoodIn wsX0_changesAt (wsV RX0 35 RX0 yX0_isHighAt wsX0_isHighAt) := goodIn_app (goodIn_of _ (by decide +kernel)) ggX0_changesAt_X0_isHighAt
set_option maxRecDepth 20000 in
theorem ggX0_risesAt_X0_isHighAt : GoodIn wsX0_risesAt wsX0_isHighAt := goodIn_r _ [5, 6, 7, 8, 9, 4, 10, 11, 12, 13] (by decide +kernel) (by decide +kernel)
set_option maxRecDepth 20000 in
theorem gX0_risesAt_X0_isHighAt : GoodIn wsX0_risesAt (wsV RX0 35 RX0 yX0_isHighAt wsX0_isHighAt) := goodIn_app (goodIn_of _ (by decide +kernel)) ggX0_risesAt_X0_isHighAt
set_option maxRecDepth 20000 in
theorem ggX0_fallsAt_X0_isHighAt : GoodIn wsX0_fallsAt wsX0_isHighAt := goodIn_r _ [5, 6, 7, 8, 9, 4, 10, 11, 12, 13] (by decide +kernel) (by decide +kernel)
set_option maxRecDepth 20000 in
theorem gX0_fallsAt_X0_isHighAt : GoodIn wsX0_fallsAt (wsV RX0 35 RX0 yX0_isHighAt wsX0_isHighAt) := goodIn_app (goodIn_of _ (by decide +kernel)) ggX0_fallsAt_X0_isHighAt
set_option maxRecDepth 20000 in
theorem ggX0_changeCount_X0_levelsAt : GoodIn wsX0_changeCount wsX0_levelsAt := goodIn_r _ [6, 7, 8, 9, 10, 5, 11, 1, 12, 13] (by decide +kernel) (by decide +kernel)
set_option maxRecDepth 20000 in
theorem gX0_changeCount_X0_levelsAt : GoodIn wsX0_changeCount (wsV RX0 39 RX0 yX0_levelsAt wsX0_levelsAt) := goodIn_app (goodIn_of _ (by decide +kernel)) ggX0_changeCount_X0_levelsAt
set_option maxRecDepth 20000 in
theorem ggX0_highCount_X0_isHighAt : GoodIn wsX0_highCount wsX0_isHighAt := goodIn_r _ [6, 7, 8, 9, 10, 5, 11, 1, 12, 13] (by decide +kernel) (by decide +kernel)
set_option maxRecDepth 20000 in
theorem gX0_highCount_X0_isHighAt : GoodIn wsX0_highCount (wsV RX0 35 RX0 yX0_isHighAt wsX0_isHighAt) := goodIn_app (goodIn_of _ (by decide +kernel)) ggX0_highCount_X0_isHighAt
set_option maxRecDepth 20000 in
theorem ggX0_runCount_X0_changesAt : GoodIn wsX0_runCount wsX0_changesAt := goodIn_r _ [6, 7, 8, 9, 5, 10, 11, 12, 13, 14, 15, 1, 16, 17] (by decide +kernel) (by decide +kernel)
set_option maxRecDepth 20000 in
theorem gX0_runCount_X0_changesAt : GoodIn wsX0_runCount (wsV RX0 43 RX0 yX0_changesAt wsX0_changesAt) := goodIn_app (goodIn_of _ (by decide +kernel)) ggX0_runCount_X0_changesAt
set_option maxRecDepth 20000 in
theorem ggX0_runLength_X0_changesAt : GoodIn wsX0_runLength wsX0_changesAt := goodIn_r _ [6, 7, 8, 9, 5, 10, 11, 12, 13, 14, 15, 1, 16, 17] (by decide +kernel) (by decide +kernel)
set_option maxRecDepth 20000 in
theorem gX0_runLength_X0_changesAt : GoodIn wsX0_runLength (wsV RX0 43 RX0 yX0_changesAt wsX0_changesAt) := goodIn_app (goodIn_of _ (by decide +kernel)) ggX0_runLength_X0_changesAt
set_option maxRecDepth 20000 in
theorem ggX0_shortestInner_X0_changesAt : GoodIn wsX0_shortestInner wsX0_changesAt := goodIn_r _ [6, 7, 8, 9, 5, 10, 11, 12, 13, 14, 15, 1, 16, 17] (by decide +kernel) (by decide +kernel)
set_option maxRecDepth 20000 in
theorem gX0_shortestInner_X0_changesAt : GoodIn wsX0_shortestInner (wsV RX0 43 RX0 yX0_changesAt wsX0_changesAt) := goodIn_app (goodIn_of _ (by decide +kernel)) ggX0_shortestInner_X0_changesAt
set_option maxRecDepth 20000 in
theorem ggX0_blockSign_X0_changesAt : GoodIn wsX0_blockSign wsX0_changesAt := goodIn_r _ [10, 11, 12, 13, 9, 14, 15, 16, 17, 18, 19, 1, 20, 21] (by decide +kernel) (by decide +kernel)
set_option maxRecDepth 20000 in
theorem gX0_blockSign_X0_changesAt : GoodIn wsX0_blockSign (wsV RX0 43 RX0 yX0_changesAt wsX0_changesAt) := goodIn_app (goodIn_of _ (by decide +kernel)) ggX0_blockSign_X0_changesAt
set_option maxRecDepth 20000 in
theorem ggX0_blockSign_X0_isHighAt : GoodIn wsX0_blockSign wsX0_isHighAt := goodIn_r _ [14, 15, 16, 17, 18, 9, 19, 1, 20, 21] (by decide +kernel) (by decide +kernel)
set_option maxRecDepth 20000 in
theorem gX0_blockSign_X0_isHighAt : GoodIn wsX0_blockSign (wsV RX0 35 RX0 yX0_isHighAt wsX0_isHighAt) := goodIn_app (goodIn_of _ (by decide +kernel)) ggX0_blockSign_X0_isHighAt
set_option maxRecDepth 20000 in
theorem ggX0_areRunsWhole_X0_changesAt : GoodIn wsX0_areRunsWhole wsX0_changesAt := goodIn_r _ [6, 7, 8, 9, 5, 10, 11, 12, 13, 14, 15, 1, 16, 17] (by decide +kernel) (by decide +kernel)
set_option maxRecDepth 20000 in
theorem gX0_areRunsWhole_X0_changesAt : GoodIn wsX0_areRunsWhole (wsV RX0 43 RX0 yX0_changesAt wsX0_changesAt) := goodIn_app (goodIn_of _ (by decide +kernel)) ggX0_areRunsWhole_X0_changesAt
set_option maxRecDepth 20000 in
theorem ggX0_areChangesSeen_X0_areChangesSeenBy : GoodIn wsX0_areChangesSeen wsX0_areChangesSeenBy := goodIn_r _ [5, 6, 7, 8, 9, 4, 10, 11, 12, 13, 14, 15, 16, 17, 18, 19, 20, 21, 22, 23, 24, 25, 26, 27, 28, 29] (by decide +kernel) (by decide +kernel)
set_option maxRecDepth 20000 in
theorem gX0_areChangesSeen_X0_areChangesSeenBy : GoodIn wsX0_areChangesSeen (wsV RX0 46 RX0 yX0_areChangesSeenBy wsX0_areChangesSeenBy) := goodIn_app (goodIn_of _ (by decide +kernel)) ggX0_areChangesSeen_X0_areChangesSeenBy
set_option maxRecDepth 20000 in
theorem ggX0_areChangesSeenBy_X0_blockSign : GoodIn wsX0_areChangesSeenBy wsX0_blockSign := goodIn_r _ [6, 1, 7, 8, 9, 10, 11, 12, 13, 5, 14, 15, 16, 17, 18, 19, 20, 21, 22, 23, 24, 25] (by decide +kernel) (by decide +kernel)
set_option maxRecDepth 20000 in
theorem gX0_areChangesSeenBy_X0_blockSign : GoodIn wsX0_areChangesSeenBy (wsV RX0 49 RX0 yX0_blockSign wsX0_blockSign) := goodIn_app (goodIn_of _ (by decide +kernel)) ggX0_areChangesSeenBy_X0_blockSign
set_option maxRecDepth 20000 in
theorem ggX0_areChangesSeenBy_X0_changesAt : GoodIn wsX0_areChangesSeenBy wsX0_changesAt := goodIn_r _ [14, 15, 16, 17, 5, 18, 19, 20, 21, 22, 23, 1, 24, 25] (by decide +kernel) (by decide +kernel)
set_option maxRecDepth 20000 in
theorem gX0_areChangesSeenBy_X0_changesAt : GoodIn wsX0_areChangesSeenBy (wsV RX0 43 RX0 yX0_changesAt wsX0_changesAt) := goodIn_app (goodIn_of _ (by decide +kernel)) ggX0_areChangesSeenBy_X0_changesAt
set_option maxRecDepth 20000 in
theorem ggX2_takeBit_X3_tell : GoodIn wsX2_takeBit wsX3_tell := goodIn_r _ [9, 10, 11, 12, 13, 14, 15, 20, 21, 22, 23, 24, 25] (by decide +kernel) (by decide +kernel)
set_option maxRecDepth 20000 in
theorem gX2_takeBit_X3_tell : GoodIn wsX2_takeBit (wsV RX2 25 RX3 yX3_tell wsX3_tell) := goodIn_app (goodIn_of _ (by decide +kernel)) ggX2_takeBit_X3_tell
set_option maxRecDepth 20000 in
theorem ggX2_takeSelectRise_X3_tell : GoodIn wsX2_takeSelectRise wsX3_tell := goodIn_r _ [9, 10, 11, 12, 13, 14, 15, 20, 21, 22, 23, 24, 25] (by decide +kernel) (by decide +kernel)
set_option maxRecDepth 20000 in
theorem gX2_takeSelectRise_X3_tell : GoodIn wsX2_takeSelectRise (wsV RX2 25 RX3 yX3_tell wsX3_tell) := goodIn_app (goodIn_of _ (by decide +kernel)) ggX2_takeSelectRise_X3_tell
set_option maxRecDepth 20000 in
theorem ggX4_metIn_X4_stepMetIn : GoodIn wsX4_metIn wsX4_stepMetIn := goodIn_r _ [8, 9, 10, 11, 7, 12, 13, 14, 15, 16, 17, 18, 19, 20, 21, 22, 23, 24, 25, 26, 27, 28, 29, 30, 31, 32, 33, 34, 35, 36, 41, 42] (by decide +kernel) (by decide +kernel)
set_option maxRecDepth 20000 in
theorem gX4_metIn_X4_stepMetIn : GoodIn wsX4_metIn (va_wsS RX4 26 yX4_stepMetIn wsX4_stepMetIn) := goodIn_app (goodIn_of _ (by decide +kernel)) ggX4_metIn_X4_stepMetIn
set_option maxRecDepth 20000 in
theorem ggX4_stepMetIn_X4_isHit : GoodIn wsX4_stepMetIn wsX4_isHit := goodIn_r _ [5, 6, 7, 8, 9, 10, 11, 12, 13, 14, 15, 16, 17, 18, 19, 20, 21, 22, 23, 24, 25, 26, 27, 28, 29, 30, 31] (by decide +kernel) (by decide +kernel)
set_option maxRecDepth 20000 in
theorem gX4_stepMetIn_X4_isHit : GoodIn wsX4_stepMetIn (va_wsS RX4 33 yX4_isHit wsX4_isHit) := goodIn_app (goodIn_of _ (by decide +kernel)) ggX4_stepMetIn_X4_isHit
set_option maxRecDepth 20000 in
theorem ggX4_isHit_X0_risesAt : GoodIn wsX4_isHit wsX0_risesAt := goodIn_r _ [5, 6, 7, 8, 4, 9, 10, 11, 12, 13, 14, 15, 25, 26] (by decide +kernel) (by decide +kernel)
set_option maxRecDepth 20000 in
theorem gX4_isHit_X0_risesAt : GoodIn wsX4_isHit (wsV RX4 37 RX0 yX0_risesAt wsX0_risesAt) := goodIn_app (goodIn_of _ (by decide +kernel)) ggX4_isHit_X0_risesAt
set_option maxRecDepth 20000 in
theorem ggX4_isHit_X0_fallsAt : GoodIn wsX4_isHit wsX0_fallsAt := goodIn_r _ [19, 6, 7, 8, 4, 9, 10, 11, 12, 13, 14, 15, 25, 26] (by decide +kernel) (by decide +kernel)
set_option maxRecDepth 20000 in
theorem gX4_isHit_X0_fallsAt : GoodIn wsX4_isHit (wsV RX4 41 RX0 yX0_fallsAt wsX0_fallsAt) := goodIn_app (goodIn_of _ (by decide +kernel)) ggX4_isHit_X0_fallsAt
set_option maxRecDepth 20000 in
theorem ggX4_isHit_X0_isHighAt : GoodIn wsX4_isHit wsX0_isHighAt := goodIn_r _ [9, 10, 11, 12, 13, 4, 14, 15, 25, 26] (by decide +kernel) (by decide +kernel)
set_option maxRecDepth 20000 in
theorem gX4_isHit_X0_isHighAt : GoodIn wsX4_isHit (wsV RX4 44 RX0 yX0_isHighAt wsX0_isHighAt) := goodIn_app (goodIn_of _ (by decide +kernel)) ggX4_isHit_X0_isHighAt
set_option maxRecDepth 20000 in
theorem ggX4_isHit_X0_levelsAt : GoodIn wsX4_isHit wsX0_levelsAt := goodIn_r _ [24, 10, 11, 12, 13, 4, 14, 15, 25, 26] (by decide +kernel) (by decide +kernel)
set_option maxRecDepth 20000 in
theorem gX4_isHit_X0_levelsAt : GoodIn wsX4_isHit (wsV RX4 47 RX0 yX0_levelsAt wsX0_levelsAt) := goodIn_app (goodIn_of _ (by decide +kernel)) ggX4_isHit_X0_levelsAt
set_option maxRecDepth 20000 in
theorem ggX5_takeStart_X3_tell : GoodIn wsX5_takeStart wsX3_tell := goodIn_r _ [9, 10, 11, 12, 13, 14, 15, 26, 27, 28, 29, 30, 31] (by decide +kernel) (by decide +kernel)
set_option maxRecDepth 20000 in
theorem gX5_takeStart_X3_tell : GoodIn wsX5_takeStart (wsV RX5 19 RX3 yX3_tell wsX3_tell) := goodIn_app (goodIn_of _ (by decide +kernel)) ggX5_takeStart_X3_tell
set_option maxRecDepth 20000 in
theorem ggX5_takeEnd_X3_tell : GoodIn wsX5_takeEnd wsX3_tell := goodIn_r _ [7, 8, 9, 10, 11, 12, 13, 24, 25, 26, 27, 28, 29] (by decide +kernel) (by decide +kernel)
set_option maxRecDepth 20000 in
theorem gX5_takeEnd_X3_tell : GoodIn wsX5_takeEnd (wsV RX5 19 RX3 yX3_tell wsX3_tell) := goodIn_app (goodIn_of _ (by decide +kernel)) ggX5_takeEnd_X3_tell
set_option maxRecDepth 20000 in
theorem ggX5_takeBit_X5_takeByte : GoodIn wsX5_takeBit wsX5_takeByte := goodIn_r _ [9, 10, 11, 3, 12, 13, 14, 15, 16, 17, 18, 19, 20, 21, 22, 23, 24, 25, 26, 27, 28, 29, 30, 31, 32, 33, 34, 35, 36, 37, 38, 39, 40, 41, 42, 43, 44, 45, 46, 47, 48, 49] (by decide +kernel) (by decide +kernel)
set_option maxRecDepth 20000 in
theorem gX5_takeBit_X5_takeByte : GoodIn wsX5_takeBit (wsV RX5 42 RX5 yX5_takeByte wsX5_takeByte) := goodIn_app (goodIn_of _ (by decide +kernel)) ggX5_takeBit_X5_takeByte
set_option maxRecDepth 20000 in
theorem ggX5_takeByte_X3_tell : GoodIn wsX5_takeByte wsX3_tell := goodIn_r _ [12, 13, 14, 15, 16, 17, 18, 35, 36, 37, 38, 39, 40] (by decide +kernel) (by decide +kernel)
set_option maxRecDepth 20000 in
theorem gX5_takeByte_X3_tell : GoodIn wsX5_takeByte (wsV RX5 19 RX3 yX3_tell wsX3_tell) := goodIn_app (goodIn_of _ (by decide +kernel)) ggX5_takeByte_X3_tell
set_option maxRecDepth 20000 in
theorem ggX5_takeByte_X1_write : GoodIn wsX5_takeByte wsX1_write := goodIn_r _ [23, 24, 41] (by decide +kernel) (by decide +kernel)
set_option maxRecDepth 20000 in
theorem gX5_takeByte_X1_write : GoodIn wsX5_takeByte (wsV RX5 55 RX1 yX1_write wsX1_write) := goodIn_app (goodIn_of _ (by decide +kernel)) ggX5_takeByte_X1_write
set_option maxRecDepth 20000 in
theorem ggX6_hasFlip_X6_countAhead : GoodIn wsX6_hasFlip wsX6_countAhead := goodIn_r _ [7, 1, 2, 8, 9, 10, 11, 12, 13] (by decide +kernel) (by decide +kernel)
set_option maxRecDepth 20000 in
theorem gX6_hasFlip_X6_countAhead : GoodIn wsX6_hasFlip (wsV RX6 22 RX6 yX6_countAhead wsX6_countAhead) := goodIn_app (goodIn_of _ (by decide +kernel)) ggX6_hasFlip_X6_countAhead
set_option maxRecDepth 20000 in
theorem ggX6_isHighAt_X6_countAhead : GoodIn wsX6_isHighAt wsX6_countAhead := goodIn_r _ [6, 7, 8, 9, 10, 11, 12, 13, 14] (by decide +kernel) (by decide +kernel)
set_option maxRecDepth 20000 in
theorem gX6_isHighAt_X6_countAhead : GoodIn wsX6_isHighAt (wsV RX6 22 RX6 yX6_countAhead wsX6_countAhead) := goodIn_app (goodIn_of _ (by decide +kernel)) ggX6_isHighAt_X6_countAhead
set_option maxRecDepth 20000 in
theorem ggX6_send_X6_addSent : GoodIn wsX6_send wsX6_addSent := goodIn_r _ [6, 7, 8, 9, 10, 11, 12, 13, 14] (by decide +kernel) (by decide +kernel)
set_option maxRecDepth 20000 in
theorem gX6_send_X6_addSent : GoodIn wsX6_send (wsV RX6 36 RX6 yX6_addSent wsX6_addSent) := goodIn_app (goodIn_of _ (by decide +kernel)) ggX6_send_X6_addSent
set_option maxRecDepth 20000 in
theorem ggX6_takesSent_X6_hasFlip : GoodIn wsX6_takesSent wsX6_hasFlip := goodIn_r _ [8, 1, 9, 10, 11, 12, 7, 13, 14, 15, 16, 17, 18, 19] (by decide +kernel) (by decide +kernel)
set_option maxRecDepth 20000 in
theorem gX6_takesSent_X6_hasFlip : GoodIn wsX6_takesSent (wsV RX6 40 RX6 yX6_hasFlip wsX6_hasFlip) := goodIn_app (goodIn_of _ (by decide +kernel)) ggX6_takesSent_X6_hasFlip
set_option maxRecDepth 20000 in
theorem ggX6_flipSent_X6_flipAt : GoodIn wsX6_flipSent wsX6_flipAt := goodIn_r _ [7, 8, 9, 10, 6, 11, 12, 13, 14, 15, 16, 17, 18, 19, 20, 21, 22, 23, 24, 25, 26, 27, 28, 29, 30, 31] (by decide +kernel) (by decide +kernel)
set_option maxRecDepth 20000 in
theorem gX6_flipSent_X6_flipAt : GoodIn wsX6_flipSent (wsV RX6 44 RX6 yX6_flipAt wsX6_flipAt) := goodIn_app (goodIn_of _ (by decide +kernel)) ggX6_flipSent_X6_flipAt
set_option maxRecDepth 20000 in
theorem ggX6_flipAt_X6_hasFlip : GoodIn wsX6_flipAt wsX6_hasFlip := goodIn_r _ [5, 6, 7, 8, 9, 10, 4, 11, 20, 21, 22, 23, 24, 25] (by decide +kernel) (by decide +kernel)
set_option maxRecDepth 20000 in
theorem gX6_flipAt_X6_hasFlip : GoodIn wsX6_flipAt (wsV RX6 40 RX6 yX6_hasFlip wsX6_hasFlip) := goodIn_app (goodIn_of _ (by decide +kernel)) ggX6_flipAt_X6_hasFlip
set_option maxRecDepth 20000 in
theorem ggX6_flipAt_X6_countAhead : GoodIn wsX6_flipAt wsX6_countAhead := goodIn_r _ [11, 6, 7, 20, 21, 22, 23, 24, 25] (by decide +kernel) (by decide +kernel)
set_option maxRecDepth 20000 in
theorem gX6_flipAt_X6_countAhead : GoodIn wsX6_flipAt (wsV RX6 22 RX6 yX6_countAhead wsX6_countAhead) := goodIn_app (goodIn_of _ (by decide +kernel)) ggX6_flipAt_X6_countAhead
set_option maxRecDepth 20000 in
theorem ggX6_flipAt_X6_takeOut : GoodIn wsX6_flipAt wsX6_takeOut := goodIn_r _ [15, 6, 7, 20, 21, 22, 23, 24, 25] (by decide +kernel) (by decide +kernel)
set_option maxRecDepth 20000 in
theorem gX6_flipAt_X6_takeOut : GoodIn wsX6_flipAt (wsV RX6 47 RX6 yX6_takeOut wsX6_takeOut) := goodIn_app (goodIn_of _ (by decide +kernel)) ggX6_flipAt_X6_takeOut
set_option maxRecDepth 20000 in
theorem ggX6_flipAt_X6_putIn : GoodIn wsX6_flipAt wsX6_putIn := goodIn_r _ [19, 6, 7, 20, 21, 22, 23, 24, 25] (by decide +kernel) (by decide +kernel)
set_option maxRecDepth 20000 in
theorem gX6_flipAt_X6_putIn : GoodIn wsX6_flipAt (wsV RX6 50 RX6 yX6_putIn wsX6_putIn) := goodIn_app (goodIn_of _ (by decide +kernel)) ggX6_flipAt_X6_putIn
set_option maxRecDepth 20000 in
theorem ggX6_showIn_X0_addLevel : GoodIn wsX6_showIn wsX0_addLevel := goodIn_r _ [9, 10, 11, 12, 13, 8, 14, 15, 22, 23] (by decide +kernel) (by decide +kernel)
set_option maxRecDepth 20000 in
theorem gX6_showIn_X0_addLevel : GoodIn wsX6_showIn (wsV RX6 57 RX0 yX0_addLevel wsX0_addLevel) := goodIn_app (goodIn_of _ (by decide +kernel)) ggX6_showIn_X0_addLevel
set_option maxRecDepth 20000 in
theorem ggX7_init_X6_init : GoodIn wsX7_init wsX6_init := goodIn_r _ [28, 29, 2, 3, 30, 31, 32, 68, 69, 70, 71, 72, 73] (by decide +kernel) (by decide +kernel)
set_option maxRecDepth 20000 in
theorem gX7_init_X6_init : GoodIn wsX7_init (wsX6_init) := ggX7_init_X6_init
set_option maxRecDepth 20000 in
theorem ggX7_init_X0_init : GoodIn wsX7_init wsX0_init := goodIn_r _ [35, 36, 2, 3, 30, 37, 74, 75] (by decide +kernel) (by decide +kernel)
set_option maxRecDepth 20000 in
theorem gX7_init_X0_init : GoodIn wsX7_init (wsX0_init) := ggX7_init_X0_init
set_option maxRecDepth 20000 in
theorem ggX7_init_X4_init : GoodIn wsX7_init wsX4_init := goodIn_r _ [40, 41, 2, 3, 42, 43, 30, 44, 45, 76, 77, 78, 79] (by decide +kernel) (by decide +kernel)
set_option maxRecDepth 20000 in
theorem gX7_init_X4_init : GoodIn wsX7_init (wsX4_init) := ggX7_init_X4_init
set_option maxRecDepth 20000 in
theorem ggX7_init_X3_init : GoodIn wsX7_init wsX3_init := goodIn_r _ [48, 49, 2, 3, 42, 50, 30, 51, 52, 53, 54, 80, 81, 82, 83, 84, 85] (by decide +kernel) (by decide +kernel)
set_option maxRecDepth 20000 in
theorem gX7_init_X3_init : GoodIn wsX7_init (wsX3_init) := ggX7_init_X3_init
set_option maxRecDepth 20000 in
theorem ggX7_init_X1_init : GoodIn wsX7_init wsX1_init := goodIn_r _ [57, 58, 2, 3, 30, 59, 86] (by decide +kernel) (by decide +kernel)
set_option maxRecDepth 20000 in
theorem gX7_init_X1_init : GoodIn wsX7_init (wsX1_init) := ggX7_init_X1_init
set_option maxRecDepth 20000 in
theorem ggX7_idle_X7_checkWire : GoodIn wsX7_idle wsX7_checkWire := goodIn_ca (goodIn_r _ [6, 7, 8] (by decide +kernel) (by decide +kernel)) (goodIn_sub (fun _ h => List.mem_cons_of_mem _ (List.mem_append_right _ h)) (by decide +kernel))
set_option maxRecDepth 20000 in
theorem gX7_idle_X7_checkWire : GoodIn wsX7_idle (va_wsS RX7 51 yX7_checkWire wsX7_checkWire) := goodIn_app (goodIn_of _ (by decide +kernel)) ggX7_idle_X7_checkWire
set_option maxRecDepth 20000 in
theorem ggX7_flip_X7_checkWire : GoodIn wsX7_flip wsX7_checkWire := goodIn_ca (goodIn_r _ [6, 7, 8] (by decide +kernel) (by decide +kernel)) (goodIn_sub (fun _ h => List.mem_cons_of_mem _ (List.mem_append_left _ (List.mem_append_left _ (List.mem_append_right _ h)))) (by decide +kernel))
set_option maxRecDepth 20000 in
theorem gX7_flip_X7_checkWire : GoodIn wsX7_flip (va_wsS RX7 51 yX7_checkWire wsX7_checkWire) := goodIn_app (goodIn_of _ (by decide +kernel)) ggX7_flip_X7_checkWire
set_option maxRecDepth 20000 in
theorem ggX7_flip_X7_checkRange : GoodIn wsX7_flip wsX7_checkRange := goodIn_ca (goodIn_r _ [11, 12, 13] (by decide +kernel) (by decide +kernel)) (goodIn_sub (fun _ h => List.mem_cons_of_mem _ (List.mem_append_left _ (List.mem_append_right _ h))) (by decide +kernel))
set_option maxRecDepth 20000 in
theorem gX7_flip_X7_checkRange : GoodIn wsX7_flip (va_wsS RX7 58 yX7_checkRange wsX7_checkRange) := goodIn_app (goodIn_of _ (by decide +kernel)) ggX7_flip_X7_checkRange
set_option maxRecDepth 20000 in
theorem ggX7_flip_X6_beginSending : GoodIn wsX7_flip wsX6_beginSending := goodIn_r _ [18, 19, 20, 69, 70, 71, 72, 73, 74] (by decide +kernel) (by decide +kernel)
set_option maxRecDepth 20000 in
theorem gX7_flip_X6_beginSending : GoodIn wsX7_flip (wsV RX7 62 RX6 yX6_beginSending wsX6_beginSending) := goodIn_app (goodIn_of _ (by decide +kernel)) ggX7_flip_X6_beginSending
set_option maxRecDepth 20000 in
theorem ggX7_flip_X6_addSent : GoodIn wsX7_flip wsX6_addSent := goodIn_r _ [24, 20, 25, 69, 70, 71, 72, 73, 74] (by decide +kernel) (by decide +kernel)
set_option maxRecDepth 20000 in
theorem gX7_flip_X6_addSent : GoodIn wsX7_flip (wsV RX7 66 RX6 yX6_addSent wsX6_addSent) := goodIn_app (goodIn_of _ (by decide +kernel)) ggX7_flip_X6_addSent
set_option maxRecDepth 20000 in
theorem ggX7_flip_X6_takesSent : GoodIn wsX7_flip wsX6_takesSent := goodIn_r _ [29, 30, 20, 25, 31, 32, 33, 17, 34, 35, 36, 37, 38, 39, 69, 70, 71, 72, 73, 74] (by decide +kernel) (by decide +kernel)
set_option maxRecDepth 20000 in
theorem gX7_flip_X6_takesSent : GoodIn wsX7_flip (wsV RX7 69 RX6 yX6_takesSent wsX6_takesSent) := goodIn_app (goodIn_of _ (by decide +kernel)) ggX7_flip_X6_takesSent
set_option maxRecDepth 20000 in
theorem ggX7_flip_X7_checkFlips : GoodIn wsX7_flip wsX7_checkFlips := goodIn_ca (goodIn_r _ [42, 43, 44] (by decide +kernel) (by decide +kernel)) (goodIn_sub (fun _ h => List.mem_cons_of_mem _ (List.mem_append_right _ h)) (by decide +kernel))
set_option maxRecDepth 20000 in
theorem gX7_flip_X7_checkFlips : GoodIn wsX7_flip (va_wsS RX7 73 yX7_checkFlips wsX7_checkFlips) := goodIn_app (goodIn_of _ (by decide +kernel)) ggX7_flip_X7_checkFlips
set_option maxRecDepth 20000 in
theorem ggX7_flip_X6_flipSent : GoodIn wsX7_flip wsX6_flipSent := goodIn_r _ [48, 20, 25, 49, 50, 51, 17, 52, 31, 32, 33, 34, 30, 35, 36, 37, 38, 39, 53, 54, 55, 56, 57, 58, 59, 60, 69, 70, 71, 72, 73, 74] (by decide +kernel) (by decide +kernel)
set_option maxRecDepth 20000 in
theorem gX7_flip_X6_flipSent : GoodIn wsX7_flip (wsV RX7 76 RX6 yX6_flipSent wsX6_flipSent) := goodIn_app (goodIn_of _ (by decide +kernel)) ggX7_flip_X6_flipSent
set_option maxRecDepth 20000 in
theorem ggX7_level_X7_checkWire : GoodIn wsX7_level wsX7_checkWire := goodIn_ca (goodIn_r _ [5, 6, 7] (by decide +kernel) (by decide +kernel)) (goodIn_sub (fun _ h => List.mem_cons_of_mem _ (List.mem_append_left _ (List.mem_append_right _ h))) (by decide +kernel))
set_option maxRecDepth 20000 in
theorem gX7_level_X7_checkWire : GoodIn wsX7_level (va_wsS RX7 51 yX7_checkWire wsX7_checkWire) := goodIn_app (goodIn_of _ (by decide +kernel)) ggX7_level_X7_checkWire
set_option maxRecDepth 20000 in
theorem ggX7_level_X7_checkRange : GoodIn wsX7_level wsX7_checkRange := goodIn_ca (goodIn_r _ [10, 11, 12] (by decide +kernel) (by decide +kernel)) (goodIn_sub (fun _ h => List.mem_cons_of_mem _ (List.mem_append_right _ h)) (by decide +kernel))
set_option maxRecDepth 20000 in
theorem gX7_level_X7_checkRange : GoodIn wsX7_level (va_wsS RX7 58 yX7_checkRange wsX7_checkRange) := goodIn_app (goodIn_of _ (by decide +kernel)) ggX7_level_X7_checkRange
set_option maxRecDepth 20000 in
theorem ggX7_level_X6_isHighAt : GoodIn wsX7_level wsX6_isHighAt := goodIn_r _ [17, 18, 19, 20, 21, 16, 22, 23, 24, 33, 34, 35, 36, 37, 38] (by decide +kernel) (by decide +kernel)
set_option maxRecDepth 20000 in
theorem gX7_level_X6_isHighAt : GoodIn wsX7_level (wsV RX7 83 RX6 yX6_isHighAt wsX6_isHighAt) := goodIn_app (goodIn_of _ (by decide +kernel)) ggX7_level_X6_isHighAt
set_option maxRecDepth 20000 in
theorem ggX7_glitch_X7_checkWire : GoodIn wsX7_glitch wsX7_checkWire := goodIn_ca (goodIn_r _ [6, 7, 8] (by decide +kernel) (by decide +kernel)) (goodIn_sub (fun _ h => List.mem_cons_of_mem _ (List.mem_append_left _ (List.mem_append_left _ (List.mem_append_right _ h)))) (by decide +kernel))
set_option maxRecDepth 20000 in
theorem gX7_glitch_X7_checkWire : GoodIn wsX7_glitch (va_wsS RX7 51 yX7_checkWire wsX7_checkWire) := goodIn_app (goodIn_of _ (by decide +kernel)) ggX7_glitch_X7_checkWire
set_option maxRecDepth 20000 in
theorem ggX7_glitch_X7_checkRange : GoodIn wsX7_glitch wsX7_checkRange := goodIn_ca (goodIn_r _ [11, 12, 13] (by decide +kernel) (by decide +kernel)) (goodIn_sub (fun _ h => List.mem_cons_of_mem _ (List.mem_append_left _ (List.mem_append_right _ h))) (by decide +kernel))
set_option maxRecDepth 20000 in
theorem gX7_glitch_X7_checkRange : GoodIn wsX7_glitch (va_wsS RX7 58 yX7_checkRange wsX7_checkRange) := goodIn_app (goodIn_of _ (by decide +kernel)) ggX7_glitch_X7_checkRange
set_option maxRecDepth 20000 in
theorem ggX7_glitch_X6_beginSending : GoodIn wsX7_glitch wsX6_beginSending := goodIn_r _ [18, 19, 20, 69, 70, 71, 72, 73, 74] (by decide +kernel) (by decide +kernel)
set_option maxRecDepth 20000 in
theorem gX7_glitch_X6_beginSending : GoodIn wsX7_glitch (wsV RX7 62 RX6 yX6_beginSending wsX6_beginSending) := goodIn_app (goodIn_of _ (by decide +kernel)) ggX7_glitch_X6_beginSending
set_option maxRecDepth 20000 in
theorem ggX7_glitch_X6_addSent : GoodIn wsX7_glitch wsX6_addSent := goodIn_r _ [24, 20, 25, 69, 70, 71, 72, 73, 74] (by decide +kernel) (by decide +kernel)
set_option maxRecDepth 20000 in
theorem gX7_glitch_X6_addSent : GoodIn wsX7_glitch (wsV RX7 66 RX6 yX6_addSent wsX6_addSent) := goodIn_app (goodIn_of _ (by decide +kernel)) ggX7_glitch_X6_addSent
set_option maxRecDepth 20000 in
theorem ggX7_glitch_X6_takesSent : GoodIn wsX7_glitch wsX6_takesSent := goodIn_r _ [29, 30, 20, 25, 31, 32, 33, 17, 34, 35, 36, 37, 38, 39, 69, 70, 71, 72, 73, 74] (by decide +kernel) (by decide +kernel)
set_option maxRecDepth 20000 in
theorem gX7_glitch_X6_takesSent : GoodIn wsX7_glitch (wsV RX7 69 RX6 yX6_takesSent wsX6_takesSent) := goodIn_app (goodIn_of _ (by decide +kernel)) ggX7_glitch_X6_takesSent
set_option maxRecDepth 20000 in
theorem ggX7_glitch_X7_checkFlips : GoodIn wsX7_glitch wsX7_checkFlips := goodIn_ca (goodIn_r _ [42, 43, 44] (by decide +kernel) (by decide +kernel)) (goodIn_sub (fun _ h => List.mem_cons_of_mem _ (List.mem_append_right _ h)) (by decide +kernel))
set_option maxRecDepth 20000 in
theorem gX7_glitch_X7_checkFlips : GoodIn wsX7_glitch (va_wsS RX7 73 yX7_checkFlips wsX7_checkFlips) := goodIn_app (goodIn_of _ (by decide +kernel)) ggX7_glitch_X7_checkFlips
set_option maxRecDepth 20000 in
theorem ggX7_glitch_X6_flipSent : GoodIn wsX7_glitch wsX6_flipSent := goodIn_r _ [48, 20, 25, 49, 50, 51, 17, 52, 31, 32, 33, 34, 30, 35, 36, 37, 38, 39, 53, 54, 55, 56, 57, 58, 59, 60, 69, 70, 71, 72, 73, 74] (by decide +kernel) (by decide +kernel)
set_option maxRecDepth 20000 in
theorem gX7_glitch_X6_flipSent : GoodIn wsX7_glitch (wsV RX7 76 RX6 yX6_flipSent wsX6_flipSent) := goodIn_app (goodIn_of _ (by decide +kernel)) ggX7_glitch_X6_flipSent
set_option maxRecDepth 20000 in
theorem ggX7_drift_X7_checkRange : GoodIn wsX7_drift wsX7_checkRange := goodIn_ca (goodIn_r _ [5, 6, 7] (by decide +kernel) (by decide +kernel)) (goodIn_sub (fun _ h => List.mem_cons_of_mem _ (List.mem_append_right _ h)) (by decide +kernel))
set_option maxRecDepth 20000 in
theorem gX7_drift_X7_checkRange : GoodIn wsX7_drift (va_wsS RX7 58 yX7_checkRange wsX7_checkRange) := goodIn_app (goodIn_of _ (by decide +kernel)) ggX7_drift_X7_checkRange
set_option maxRecDepth 20000 in
theorem ggX7_serial_X7_checkWire : GoodIn wsX7_serial wsX7_checkWire := goodIn_ca (goodIn_r _ [5, 6, 7] (by decide +kernel) (by decide +kernel)) (goodIn_sub (fun _ h => List.mem_cons_of_mem _ (List.mem_append_left _ (List.mem_append_left _ (List.mem_append_right _ h)))) (by decide +kernel))
set_option maxRecDepth 20000 in
theorem gX7_serial_X7_checkWire : GoodIn wsX7_serial (va_wsS RX7 51 yX7_checkWire wsX7_checkWire) := goodIn_app (goodIn_of _ (by decide +kernel)) ggX7_serial_X7_checkWire
set_option maxRecDepth 20000 in
theorem ggX7_serial_X7_checkRange : GoodIn wsX7_serial wsX7_checkRange := goodIn_ca (goodIn_r _ [10, 11, 12] (by decide +kernel) (by decide +kernel)) (goodIn_sub (fun _ h => List.mem_cons_of_mem _ (List.mem_append_left _ (List.mem_append_right _ h))) (by decide +kernel))
set_option maxRecDepth 20000 in
theorem gX7_serial_X7_checkRange : GoodIn wsX7_serial (va_wsS RX7 58 yX7_checkRange wsX7_checkRange) := goodIn_app (goodIn_of _ (by decide +kernel)) ggX7_serial_X7_checkRange
set_option maxRecDepth 20000 in
theorem ggX7_serial_X7_checkParity : GoodIn wsX7_serial wsX7_checkParity := goodIn_ca (goodIn_r _ [15, 11, 12] (by decide +kernel) (by decide +kernel)) (goodIn_sub (fun _ h => List.mem_cons_of_mem _ (List.mem_append_left _ (List.mem_append_right _ h))) (by decide +kernel))
set_option maxRecDepth 20000 in
theorem gX7_serial_X7_checkParity : GoodIn wsX7_serial (va_wsS RX7 90 yX7_checkParity wsX7_checkParity) := goodIn_app (goodIn_of _ (by decide +kernel)) ggX7_serial_X7_checkParity
set_option maxRecDepth 20000 in
theorem ggX7_serial_X7_serialBits : GoodIn wsX7_serial wsX7_serialBits := goodIn_r _ [18] (by decide +kernel) (by decide +kernel)
set_option maxRecDepth 20000 in
theorem gX7_serial_X7_serialBits : GoodIn wsX7_serial (va_wsS RX7 94 yX7_serialBits wsX7_serialBits) := goodIn_app (goodIn_of _ (by decide +kernel)) ggX7_serial_X7_serialBits
set_option maxRecDepth 20000 in
theorem ggX7_serial_X7_serialWord : GoodIn wsX7_serial wsX7_serialWord := goodIn_r _ [21, 22, 23, 4, 24, 25, 26, 27, 28, 29, 30, 31, 16, 17, 18] (by decide +kernel) (by decide +kernel)
set_option maxRecDepth 20000 in
theorem gX7_serial_X7_serialWord : GoodIn wsX7_serial (va_wsS RX7 98 yX7_serialWord wsX7_serialWord) := goodIn_app (goodIn_of _ (by decide +kernel)) ggX7_serial_X7_serialWord
set_option maxRecDepth 20000 in
theorem ggX7_serial_X6_beginSending : GoodIn wsX7_serial wsX6_beginSending := goodIn_r _ [36, 37, 38, 99, 100, 101, 102, 103, 104] (by decide +kernel) (by decide +kernel)
set_option maxRecDepth 20000 in
theorem gX7_serial_X6_beginSending : GoodIn wsX7_serial (wsV RX7 62 RX6 yX6_beginSending wsX6_beginSending) := goodIn_app (goodIn_of _ (by decide +kernel)) ggX7_serial_X6_beginSending
set_option maxRecDepth 20000 in
theorem ggX7_serial_X7_hasBit : GoodIn wsX7_serial wsX7_hasBit := goodIn_r _ [41] (by decide +kernel) (by decide +kernel)
set_option maxRecDepth 20000 in
theorem gX7_serial_X7_hasBit : GoodIn wsX7_serial (va_wsS RX7 102 yX7_hasBit wsX7_hasBit) := goodIn_app (goodIn_of _ (by decide +kernel)) ggX7_serial_X7_hasBit
set_option maxRecDepth 20000 in
theorem ggX7_serial_X7_tickBehind : GoodIn wsX7_serial wsX7_tickBehind := goodIn_r _ [45, 46, 91, 92, 93, 94, 95, 96, 97, 98] (by decide +kernel) (by decide +kernel)
set_option maxRecDepth 20000 in
theorem gX7_serial_X7_tickBehind : GoodIn wsX7_serial (wsV RX7 106 RX7 yX7_tickBehind wsX7_tickBehind) := goodIn_app (goodIn_of _ (by decide +kernel)) ggX7_serial_X7_tickBehind
set_option maxRecDepth 20000 in
theorem ggX7_serial_X6_send : GoodIn wsX7_serial wsX6_send := goodIn_r _ [50, 37, 51, 52, 53, 35, 54, 38, 55, 99, 100, 101, 102, 103, 104] (by decide +kernel) (by decide +kernel)
set_option maxRecDepth 20000 in
theorem gX7_serial_X6_send : GoodIn wsX7_serial (wsV RX7 110 RX6 yX6_send wsX6_send) := goodIn_app (goodIn_of _ (by decide +kernel)) ggX7_serial_X6_send
set_option maxRecDepth 20000 in
theorem ggX7_serial_X6_takesSent : GoodIn wsX7_serial wsX6_takesSent := goodIn_r _ [59, 60, 38, 55, 61, 62, 63, 35, 64, 65, 66, 67, 68, 69, 99, 100, 101, 102, 103, 104] (by decide +kernel) (by decide +kernel)
set_option maxRecDepth 20000 in
theorem gX7_serial_X6_takesSent : GoodIn wsX7_serial (wsV RX7 69 RX6 yX6_takesSent wsX6_takesSent) := goodIn_app (goodIn_of _ (by decide +kernel)) ggX7_serial_X6_takesSent
set_option maxRecDepth 20000 in
theorem ggX7_serial_X7_checkFlips : GoodIn wsX7_serial wsX7_checkFlips := goodIn_ca (goodIn_r _ [72, 73, 74] (by decide +kernel) (by decide +kernel)) (goodIn_sub (fun _ h => List.mem_cons_of_mem _ (List.mem_append_right _ h)) (by decide +kernel))
set_option maxRecDepth 20000 in
theorem gX7_serial_X7_checkFlips : GoodIn wsX7_serial (va_wsS RX7 73 yX7_checkFlips wsX7_checkFlips) := goodIn_app (goodIn_of _ (by decide +kernel)) ggX7_serial_X7_checkFlips
set_option maxRecDepth 20000 in
theorem ggX7_serial_X6_flipSent : GoodIn wsX7_serial wsX6_flipSent := goodIn_r _ [78, 38, 55, 79, 80, 81, 35, 82, 61, 62, 63, 64, 60, 65, 66, 67, 68, 69, 83, 84, 85, 86, 87, 88, 89, 90, 99, 100, 101, 102, 103, 104] (by decide +kernel) (by decide +kernel)
set_option maxRecDepth 20000 in
theorem gX7_serial_X6_flipSent : GoodIn wsX7_serial (wsV RX7 76 RX6 yX6_flipSent wsX6_flipSent) := goodIn_app (goodIn_of _ (by decide +kernel)) ggX7_serial_X6_flipSent
set_option maxRecDepth 20000 in
theorem ggX7_twoWires_X7_checkWire : GoodIn wsX7_twoWires wsX7_checkWire := goodIn_ca (goodIn_r _ [7, 8, 9] (by decide +kernel) (by decide +kernel)) (goodIn_sub (fun _ h => List.mem_cons_of_mem _ (List.mem_append_left _ (List.mem_append_left _ (List.mem_append_right _ h)))) (by decide +kernel))
set_option maxRecDepth 20000 in
theorem gX7_twoWires_X7_checkWire : GoodIn wsX7_twoWires (va_wsS RX7 51 yX7_checkWire wsX7_checkWire) := goodIn_app (goodIn_of _ (by decide +kernel)) ggX7_twoWires_X7_checkWire
set_option maxRecDepth 20000 in
theorem ggX7_twoWires_X7_checkRange : GoodIn wsX7_twoWires wsX7_checkRange := goodIn_ca (goodIn_r _ [12, 13, 14] (by decide +kernel) (by decide +kernel)) (goodIn_sub (fun _ h => List.mem_cons_of_mem _ (List.mem_append_left _ (List.mem_append_right _ h))) (by decide +kernel))
set_option maxRecDepth 20000 in
theorem gX7_twoWires_X7_checkRange : GoodIn wsX7_twoWires (va_wsS RX7 58 yX7_checkRange wsX7_checkRange) := goodIn_app (goodIn_of _ (by decide +kernel)) ggX7_twoWires_X7_checkRange
set_option maxRecDepth 20000 in
theorem ggX7_twoWires_X7_checkApart : GoodIn wsX7_twoWires wsX7_checkApart := goodIn_ca (goodIn_r _ [17, 13, 14] (by decide +kernel) (by decide +kernel)) (goodIn_sub (fun _ h => List.mem_cons_of_mem _ (List.mem_append_left _ (List.mem_append_right _ h))) (by decide +kernel))
set_option maxRecDepth 20000 in
theorem gX7_twoWires_X7_checkApart : GoodIn wsX7_twoWires (va_wsS RX7 114 yX7_checkApart wsX7_checkApart) := goodIn_app (goodIn_of _ (by decide +kernel)) ggX7_twoWires_X7_checkApart
set_option maxRecDepth 20000 in
theorem ggX7_twoWires_X7_answeredByte : GoodIn wsX7_twoWires wsX7_answeredByte := goodIn_r _ [20] (by decide +kernel) (by decide +kernel)
set_option maxRecDepth 20000 in
theorem gX7_twoWires_X7_answeredByte : GoodIn wsX7_twoWires (va_wsS RX7 118 yX7_answeredByte wsX7_answeredByte) := goodIn_app (goodIn_of _ (by decide +kernel)) ggX7_twoWires_X7_answeredByte
set_option maxRecDepth 20000 in
theorem ggX7_twoWires_X7_planTwoWires : GoodIn wsX7_twoWires wsX7_planTwoWires := goodIn_r _ [24, 25, 26, 27, 28, 29, 30, 31, 32, 33, 34, 35, 36, 37, 38, 39, 40, 41, 42, 43, 6, 44, 45, 46, 47, 48, 92, 93, 94, 95, 96, 97, 84, 85, 86, 87, 88, 89, 90, 91] (by decide +kernel) (by decide +kernel)
set_option maxRecDepth 20000 in
theorem gX7_twoWires_X7_planTwoWires : GoodIn wsX7_twoWires (wsV RX7 122 RX7 yX7_planTwoWires wsX7_planTwoWires) := goodIn_app (goodIn_of _ (by decide +kernel)) ggX7_twoWires_X7_planTwoWires
set_option maxRecDepth 20000 in
theorem ggX7_twoWires_X6_takesSent : GoodIn wsX7_twoWires wsX6_takesSent := goodIn_r _ [52, 53, 31, 40, 54, 55, 56, 28, 57, 58, 59, 60, 61, 62, 92, 93, 94, 95, 96, 97] (by decide +kernel) (by decide +kernel)
set_option maxRecDepth 20000 in
theorem gX7_twoWires_X6_takesSent : GoodIn wsX7_twoWires (wsV RX7 69 RX6 yX6_takesSent wsX6_takesSent) := goodIn_app (goodIn_of _ (by decide +kernel)) ggX7_twoWires_X6_takesSent
set_option maxRecDepth 20000 in
theorem ggX7_twoWires_X7_checkFlips : GoodIn wsX7_twoWires wsX7_checkFlips := goodIn_ca (goodIn_r _ [65, 66, 67] (by decide +kernel) (by decide +kernel)) (goodIn_sub (fun _ h => List.mem_cons_of_mem _ (List.mem_append_right _ h)) (by decide +kernel))
set_option maxRecDepth 20000 in
theorem gX7_twoWires_X7_checkFlips : GoodIn wsX7_twoWires (va_wsS RX7 73 yX7_checkFlips wsX7_checkFlips) := goodIn_app (goodIn_of _ (by decide +kernel)) ggX7_twoWires_X7_checkFlips
set_option maxRecDepth 20000 in
theorem ggX7_twoWires_X6_flipSent : GoodIn wsX7_twoWires wsX6_flipSent := goodIn_r _ [71, 31, 40, 72, 73, 74, 28, 75, 54, 55, 56, 57, 53, 58, 59, 60, 61, 62, 76, 77, 78, 79, 80, 81, 82, 83, 92, 93, 94, 95, 96, 97] (by decide +kernel) (by decide +kernel)
set_option maxRecDepth 20000 in
theorem gX7_twoWires_X6_flipSent : GoodIn wsX7_twoWires (wsV RX7 76 RX6 yX6_flipSent wsX6_flipSent) := goodIn_app (goodIn_of _ (by decide +kernel)) ggX7_twoWires_X6_flipSent
set_option maxRecDepth 20000 in
theorem ggX7_twoWires_X7_tickBehind : GoodIn wsX7_twoWires wsX7_tickBehind := goodIn_r _ [44, 45, 84, 85, 86, 87, 88, 89, 90, 91] (by decide +kernel) (by decide +kernel)
set_option maxRecDepth 20000 in
theorem gX7_twoWires_X7_tickBehind : GoodIn wsX7_twoWires (wsV RX7 106 RX7 yX7_tickBehind wsX7_tickBehind) := goodIn_app (goodIn_of _ (by decide +kernel)) ggX7_twoWires_X7_tickBehind
set_option maxRecDepth 20000 in
theorem ggX7_fourWires_X7_checkWire : GoodIn wsX7_fourWires wsX7_checkWire := goodIn_ca (goodIn_r _ [5, 6, 7] (by decide +kernel) (by decide +kernel)) (goodIn_sub (fun _ h => List.mem_cons_of_mem _ (List.mem_append_left _ (List.mem_append_left _ (List.mem_append_right _ h)))) (by decide +kernel))
set_option maxRecDepth 20000 in
theorem gX7_fourWires_X7_checkWire : GoodIn wsX7_fourWires (va_wsS RX7 51 yX7_checkWire wsX7_checkWire) := goodIn_app (goodIn_of _ (by decide +kernel)) ggX7_fourWires_X7_checkWire
set_option maxRecDepth 20000 in
theorem ggX7_fourWires_X7_checkRange : GoodIn wsX7_fourWires wsX7_checkRange := goodIn_ca (goodIn_r _ [10, 11, 12] (by decide +kernel) (by decide +kernel)) (goodIn_sub (fun _ h => List.mem_cons_of_mem _ (List.mem_append_left _ (List.mem_append_right _ h))) (by decide +kernel))
set_option maxRecDepth 20000 in
theorem gX7_fourWires_X7_checkRange : GoodIn wsX7_fourWires (va_wsS RX7 58 yX7_checkRange wsX7_checkRange) := goodIn_app (goodIn_of _ (by decide +kernel)) ggX7_fourWires_X7_checkRange
set_option maxRecDepth 20000 in
theorem ggX7_fourWires_X7_checkThreeApart : GoodIn wsX7_fourWires wsX7_checkThreeApart := goodIn_ca (goodIn_r _ [15, 16, 17, 4, 18, 11, 12] (by decide +kernel) (by decide +kernel)) (goodIn_sub (fun _ h => List.mem_cons_of_mem _ (List.mem_append_left _ (List.mem_append_right _ h))) (by decide +kernel))
set_option maxRecDepth 20000 in
theorem gX7_fourWires_X7_checkThreeApart : GoodIn wsX7_fourWires (va_wsS RX7 126 yX7_checkThreeApart wsX7_checkThreeApart) := goodIn_app (goodIn_of _ (by decide +kernel)) ggX7_fourWires_X7_checkThreeApart
set_option maxRecDepth 20000 in
theorem ggX7_fourWires_X7_tickBehind : GoodIn wsX7_fourWires wsX7_tickBehind := goodIn_r _ [22, 23, 89, 90, 91, 92, 93, 94, 95, 96] (by decide +kernel) (by decide +kernel)
set_option maxRecDepth 20000 in
theorem gX7_fourWires_X7_tickBehind : GoodIn wsX7_fourWires (wsV RX7 106 RX7 yX7_tickBehind wsX7_tickBehind) := goodIn_app (goodIn_of _ (by decide +kernel)) ggX7_fourWires_X7_tickBehind
set_option maxRecDepth 20000 in
theorem ggX7_fourWires_X7_planSelect : GoodIn wsX7_fourWires wsX7_planSelect := goodIn_r _ [26, 27, 28, 29, 30, 31, 32, 33, 34, 35, 36, 37, 38, 39, 40, 41, 42, 97, 98, 99, 100, 101, 102] (by decide +kernel) (by decide +kernel)
set_option maxRecDepth 20000 in
theorem gX7_fourWires_X7_planSelect : GoodIn wsX7_fourWires (va_wsS RX7 129 yX7_planSelect wsX7_planSelect) := goodIn_app (goodIn_of _ (by decide +kernel)) ggX7_fourWires_X7_planSelect
set_option maxRecDepth 20000 in
theorem ggX7_fourWires_X7_planFourClock : GoodIn wsX7_fourWires wsX7_planFourClock := goodIn_r _ [46, 27, 28, 29, 30, 31, 32, 33, 19, 20, 21, 4, 22, 23, 34, 35, 36, 37, 38, 39, 40, 41, 42, 97, 98, 99, 100, 101, 102, 89, 90, 91, 92, 93, 94, 95, 96] (by decide +kernel) (by decide +kernel)
set_option maxRecDepth 20000 in
theorem gX7_fourWires_X7_planFourClock : GoodIn wsX7_fourWires (wsV RX7 133 RX7 yX7_planFourClock wsX7_planFourClock) := goodIn_app (goodIn_of _ (by decide +kernel)) ggX7_fourWires_X7_planFourClock
set_option maxRecDepth 20000 in
theorem ggX7_fourWires_X7_planFourData : GoodIn wsX7_fourWires wsX7_planFourData := goodIn_r _ [50, 27, 28, 29, 30, 31, 32, 33, 51, 52, 4, 53, 19, 20, 21, 22, 23, 34, 35, 36, 37, 38, 39, 40, 41, 42, 97, 98, 99, 100, 101, 102, 89, 90, 91, 92, 93, 94, 95, 96] (by decide +kernel) (by decide +kernel)
set_option maxRecDepth 20000 in
theorem gX7_fourWires_X7_planFourData : GoodIn wsX7_fourWires (wsV RX7 137 RX7 yX7_planFourData wsX7_planFourData) := goodIn_app (goodIn_of _ (by decide +kernel)) ggX7_fourWires_X7_planFourData
set_option maxRecDepth 20000 in
theorem ggX7_fourWires_X6_takesSent : GoodIn wsX7_fourWires wsX6_takesSent := goodIn_r _ [57, 58, 33, 42, 59, 60, 61, 30, 62, 63, 64, 65, 66, 67, 97, 98, 99, 100, 101, 102] (by decide +kernel) (by decide +kernel)
set_option maxRecDepth 20000 in
theorem gX7_fourWires_X6_takesSent : GoodIn wsX7_fourWires (wsV RX7 69 RX6 yX6_takesSent wsX6_takesSent) := goodIn_app (goodIn_of _ (by decide +kernel)) ggX7_fourWires_X6_takesSent
set_option maxRecDepth 20000 in
theorem ggX7_fourWires_X7_checkFlips : GoodIn wsX7_fourWires wsX7_checkFlips := goodIn_ca (goodIn_r _ [70, 71, 72] (by decide +kernel) (by decide +kernel)) (goodIn_sub (fun _ h => List.mem_cons_of_mem _ (List.mem_append_right _ h)) (by decide +kernel))
set_option maxRecDepth 20000 in
theorem gX7_fourWires_X7_checkFlips : GoodIn wsX7_fourWires (va_wsS RX7 73 yX7_checkFlips wsX7_checkFlips) := goodIn_app (goodIn_of _ (by decide +kernel)) ggX7_fourWires_X7_checkFlips
set_option maxRecDepth 20000 in
theorem ggX7_fourWires_X6_flipSent : GoodIn wsX7_fourWires wsX6_flipSent := goodIn_r _ [76, 33, 42, 77, 78, 79, 30, 80, 59, 60, 61, 62, 58, 63, 64, 65, 66, 67, 81, 82, 83, 84, 85, 86, 87, 88, 97, 98, 99, 100, 101, 102] (by decide +kernel) (by decide +kernel)
set_option maxRecDepth 20000 in
theorem gX7_fourWires_X6_flipSent : GoodIn wsX7_fourWires (wsV RX7 76 RX6 yX6_flipSent wsX6_flipSent) := goodIn_app (goodIn_of _ (by decide +kernel)) ggX7_fourWires_X6_flipSent
set_option maxRecDepth 20000 in
theorem ggX7_capture_X7_checkCapture : GoodIn wsX7_capture wsX7_checkCapture := goodIn_ca (goodIn_r _ [6, 7, 8] (by decide +kernel) (by decide +kernel)) (goodIn_sub (fun _ h => List.mem_cons_of_mem _ (List.mem_append_left _ (List.mem_append_right _ h))) (by decide +kernel))
set_option maxRecDepth 20000 in
theorem gX7_capture_X7_checkCapture : GoodIn wsX7_capture (va_wsS RX7 141 yX7_checkCapture wsX7_checkCapture) := goodIn_app (goodIn_of _ (by decide +kernel)) ggX7_capture_X7_checkCapture
set_option maxRecDepth 20000 in
theorem ggX7_capture_X7_checkRange : GoodIn wsX7_capture wsX7_checkRange := goodIn_ca (goodIn_r _ [11, 12, 13] (by decide +kernel) (by decide +kernel)) (goodIn_sub (fun _ h => List.mem_cons_of_mem _ (List.mem_append_right _ h)) (by decide +kernel))
set_option maxRecDepth 20000 in
theorem gX7_capture_X7_checkRange : GoodIn wsX7_capture (va_wsS RX7 58 yX7_checkRange wsX7_checkRange) := goodIn_app (goodIn_of _ (by decide +kernel)) ggX7_capture_X7_checkRange
set_option maxRecDepth 20000 in
theorem ggX7_capture_X0_clearFor : GoodIn wsX7_capture wsX0_clearFor := goodIn_r _ [18, 19, 20, 21, 22, 23, 24, 25, 26, 27, 28, 62, 63] (by decide +kernel) (by decide +kernel)
set_option maxRecDepth 20000 in
theorem gX7_capture_X0_clearFor : GoodIn wsX7_capture (wsV RX7 144 RX0 yX0_clearFor wsX0_clearFor) := goodIn_app (goodIn_of _ (by decide +kernel)) ggX7_capture_X0_clearFor
set_option maxRecDepth 20000 in
theorem ggX7_capture_X6_showIn : GoodIn wsX7_capture wsX6_showIn := goodIn_r _ [33, 34, 35, 36, 37, 38, 39, 40, 17, 41, 19, 42, 43, 44, 45, 24, 64, 65, 66, 67, 68, 69, 62, 63] (by decide +kernel) (by decide +kernel)
set_option maxRecDepth 20000 in
theorem gX7_capture_X6_showIn : GoodIn wsX7_capture (wsV RX7 147 RX6 yX6_showIn wsX6_showIn) := goodIn_app (goodIn_of _ (by decide +kernel)) ggX7_capture_X6_showIn
set_option maxRecDepth 20000 in
theorem ggX7_capture_X0_changeCount : GoodIn wsX7_capture wsX0_changeCount := goodIn_r _ [49, 24, 50, 51, 52, 17, 53, 19, 42, 43, 44, 45, 62, 63] (by decide +kernel) (by decide +kernel)
set_option maxRecDepth 20000 in
theorem gX7_capture_X0_changeCount : GoodIn wsX7_capture (wsV RX7 151 RX0 yX0_changeCount wsX0_changeCount) := goodIn_app (goodIn_of _ (by decide +kernel)) ggX7_capture_X0_changeCount
set_option maxRecDepth 20000 in
theorem ggX7_samples_X7_checkCapture : GoodIn wsX7_samples wsX7_checkCapture := goodIn_ca (goodIn_r _ [6, 7, 8] (by decide +kernel) (by decide +kernel)) (goodIn_sub (fun _ h => List.mem_cons_of_mem _ (List.mem_append_right _ h)) (by decide +kernel))
set_option maxRecDepth 20000 in
theorem gX7_samples_X7_checkCapture : GoodIn wsX7_samples (va_wsS RX7 141 yX7_checkCapture wsX7_checkCapture) := goodIn_app (goodIn_of _ (by decide +kernel)) ggX7_samples_X7_checkCapture
set_option maxRecDepth 20000 in
theorem ggX7_sample_X7_checkCapture : GoodIn wsX7_sample wsX7_checkCapture := goodIn_ca (goodIn_r _ [5, 6, 7] (by decide +kernel) (by decide +kernel)) (goodIn_sub (fun _ h => List.mem_cons_of_mem _ (List.mem_append_left _ (List.mem_append_right _ h))) (by decide +kernel))
set_option maxRecDepth 20000 in
theorem gX7_sample_X7_checkCapture : GoodIn wsX7_sample (va_wsS RX7 141 yX7_checkCapture wsX7_checkCapture) := goodIn_app (goodIn_of _ (by decide +kernel)) ggX7_sample_X7_checkCapture
set_option maxRecDepth 20000 in
theorem ggX7_sample_X0_has : GoodIn wsX7_sample wsX0_has := goodIn_r _ [12, 13, 14, 33, 34] (by decide +kernel) (by decide +kernel)
set_option maxRecDepth 20000 in
theorem gX7_sample_X0_has : GoodIn wsX7_sample (wsV RX7 156 RX0 yX0_has wsX0_has) := goodIn_app (goodIn_of _ (by decide +kernel)) ggX7_sample_X0_has
set_option maxRecDepth 20000 in
theorem ggX7_sample_X7_checkThere : GoodIn wsX7_sample wsX7_checkThere := goodIn_ca (goodIn_r _ [17, 18, 19] (by decide +kernel) (by decide +kernel)) (goodIn_sub (fun _ h => List.mem_cons_of_mem _ (List.mem_append_right _ h)) (by decide +kernel))
set_option maxRecDepth 20000 in
theorem gX7_sample_X7_checkThere : GoodIn wsX7_sample (va_wsS RX7 159 yX7_checkThere wsX7_checkThere) := goodIn_app (goodIn_of _ (by decide +kernel)) ggX7_sample_X7_checkThere
set_option maxRecDepth 20000 in
theorem ggX7_sample_X0_levelsAt : GoodIn wsX7_sample wsX0_levelsAt := goodIn_r _ [23, 14, 24, 9, 10, 11, 12, 13, 33, 34] (by decide +kernel) (by decide +kernel)
set_option maxRecDepth 20000 in
theorem gX7_sample_X0_levelsAt : GoodIn wsX7_sample (wsV RX7 162 RX0 yX0_levelsAt wsX0_levelsAt) := goodIn_app (goodIn_of _ (by decide +kernel)) ggX7_sample_X0_levelsAt
set_option maxRecDepth 20000 in
theorem ggX7_runs_X7_checkCapture : GoodIn wsX7_runs wsX7_checkCapture := goodIn_ca (goodIn_r _ [5, 6, 7] (by decide +kernel) (by decide +kernel)) (goodIn_sub (fun _ h => List.mem_cons_of_mem _ (List.mem_append_right _ h)) (by decide +kernel))
set_option maxRecDepth 20000 in
theorem gX7_runs_X7_checkCapture : GoodIn wsX7_runs (va_wsS RX7 141 yX7_checkCapture wsX7_checkCapture) := goodIn_app (goodIn_of _ (by decide +kernel)) ggX7_runs_X7_checkCapture
set_option maxRecDepth 20000 in
theorem ggX7_runs_X7_checkWire : GoodIn wsX7_runs wsX7_checkWire := goodIn_ca (goodIn_r _ [10, 6, 7] (by decide +kernel) (by decide +kernel)) (goodIn_sub (fun _ h => List.mem_cons_of_mem _ (List.mem_append_right _ h)) (by decide +kernel))
set_option maxRecDepth 20000 in
theorem gX7_runs_X7_checkWire : GoodIn wsX7_runs (va_wsS RX7 51 yX7_checkWire wsX7_checkWire) := goodIn_app (goodIn_of _ (by decide +kernel)) ggX7_runs_X7_checkWire
set_option maxRecDepth 20000 in
theorem ggX7_runs_X0_runCount : GoodIn wsX7_runs wsX0_runCount := goodIn_r _ [15, 16, 17, 18, 19, 14, 20, 21, 22, 23, 24, 25, 26, 27, 28, 29, 38, 39] (by decide +kernel) (by decide +kernel)
set_option maxRecDepth 20000 in
theorem gX7_runs_X0_runCount : GoodIn wsX7_runs (wsV RX7 166 RX0 yX0_runCount wsX0_runCount) := goodIn_app (goodIn_of _ (by decide +kernel)) ggX7_runs_X0_runCount
set_option maxRecDepth 20000 in
theorem ggX7_run_X7_checkCapture : GoodIn wsX7_run wsX7_checkCapture := goodIn_ca (goodIn_r _ [5, 6, 7] (by decide +kernel) (by decide +kernel)) (goodIn_sub (fun _ h => List.mem_cons_of_mem _ (List.mem_append_left _ (List.mem_append_right _ h))) (by decide +kernel))
set_option maxRecDepth 20000 in
theorem gX7_run_X7_checkCapture : GoodIn wsX7_run (va_wsS RX7 141 yX7_checkCapture wsX7_checkCapture) := goodIn_app (goodIn_of _ (by decide +kernel)) ggX7_run_X7_checkCapture
set_option maxRecDepth 20000 in
theorem ggX7_run_X7_checkWire : GoodIn wsX7_run wsX7_checkWire := goodIn_ca (goodIn_r _ [10, 6, 7] (by decide +kernel) (by decide +kernel)) (goodIn_sub (fun _ h => List.mem_cons_of_mem _ (List.mem_append_left _ (List.mem_append_right _ h))) (by decide +kernel))
set_option maxRecDepth 20000 in
theorem gX7_run_X7_checkWire : GoodIn wsX7_run (va_wsS RX7 51 yX7_checkWire wsX7_checkWire) := goodIn_app (goodIn_of _ (by decide +kernel)) ggX7_run_X7_checkWire
set_option maxRecDepth 20000 in
theorem ggX7_run_X0_runLength : GoodIn wsX7_run wsX0_runLength := goodIn_r _ [15, 16, 17, 18, 19, 14, 20, 21, 22, 23, 24, 25, 26, 27, 28, 29, 43, 44] (by decide +kernel) (by decide +kernel)
set_option maxRecDepth 20000 in
theorem gX7_run_X0_runLength : GoodIn wsX7_run (wsV RX7 169 RX0 yX0_runLength wsX0_runLength) := goodIn_app (goodIn_of _ (by decide +kernel)) ggX7_run_X0_runLength
set_option maxRecDepth 20000 in
theorem ggX7_run_X7_checkThere : GoodIn wsX7_run wsX7_checkThere := goodIn_ca (goodIn_r _ [32, 33, 34] (by decide +kernel) (by decide +kernel)) (goodIn_sub (fun _ h => List.mem_cons_of_mem _ (List.mem_append_right _ h)) (by decide +kernel))
set_option maxRecDepth 20000 in
theorem gX7_run_X7_checkThere : GoodIn wsX7_run (va_wsS RX7 159 yX7_checkThere wsX7_checkThere) := goodIn_app (goodIn_of _ (by decide +kernel)) ggX7_run_X7_checkThere
set_option maxRecDepth 20000 in
theorem ggX7_shortest_X7_shortestRunOf : GoodIn wsX7_shortest wsX7_shortestRunOf := goodIn_ca (goodIn_ca (goodIn_r _ [5, 6, 7, 8, 4, 9, 10, 11, 12, 13, 14, 15, 16, 17, 18, 19, 20, 21, 22, 23, 24, 25, 26, 27, 28, 29, 30, 31, 32, 33, 34, 35, 36, 37, 38, 39, 40, 41, 42, 43, 44, 45, 46, 47, 48] (by decide +kernel) (by decide +kernel)) (goodIn_sub (fun _ h => List.mem_cons_of_mem _ (List.mem_append_left _ (List.mem_append_right _ h))) (by decide +kernel))) (goodIn_sub (fun _ h => List.mem_cons_of_mem _ (List.mem_append_right _ h)) (by decide +kernel))
set_option maxRecDepth 20000 in
theorem gX7_shortest_X7_shortestRunOf : GoodIn wsX7_shortest (wsV RX7 172 RX7 yX7_shortestRunOf wsX7_shortestRunOf) := goodIn_app (goodIn_of _ (by decide +kernel)) ggX7_shortest_X7_shortestRunOf
set_option maxRecDepth 20000 in
theorem ggX7_block_X7_checkCapture : GoodIn wsX7_block wsX7_checkCapture := goodIn_ca (goodIn_r _ [5, 6, 7] (by decide +kernel) (by decide +kernel)) (goodIn_sub (fun _ h => List.mem_cons_of_mem _ (List.mem_append_left _ (List.mem_append_left _ (List.mem_append_right _ h)))) (by decide +kernel))
set_option maxRecDepth 20000 in
theorem gX7_block_X7_checkCapture : GoodIn wsX7_block (va_wsS RX7 141 yX7_checkCapture wsX7_checkCapture) := goodIn_app (goodIn_of _ (by decide +kernel)) ggX7_block_X7_checkCapture
set_option maxRecDepth 20000 in
theorem ggX7_block_X7_checkWire : GoodIn wsX7_block wsX7_checkWire := goodIn_ca (goodIn_r _ [10, 6, 7] (by decide +kernel) (by decide +kernel)) (goodIn_sub (fun _ h => List.mem_cons_of_mem _ (List.mem_append_left _ (List.mem_append_left _ (List.mem_append_right _ h)))) (by decide +kernel))
set_option maxRecDepth 20000 in
theorem gX7_block_X7_checkWire : GoodIn wsX7_block (va_wsS RX7 51 yX7_checkWire wsX7_checkWire) := goodIn_app (goodIn_of _ (by decide +kernel)) ggX7_block_X7_checkWire
set_option maxRecDepth 20000 in
theorem ggX7_block_X7_checkRange : GoodIn wsX7_block wsX7_checkRange := goodIn_ca (goodIn_r _ [13, 14, 15] (by decide +kernel) (by decide +kernel)) (goodIn_sub (fun _ h => List.mem_cons_of_mem _ (List.mem_append_left _ (List.mem_append_right _ h))) (by decide +kernel))
set_option maxRecDepth 20000 in
theorem gX7_block_X7_checkRange : GoodIn wsX7_block (va_wsS RX7 58 yX7_checkRange wsX7_checkRange) := goodIn_app (goodIn_of _ (by decide +kernel)) ggX7_block_X7_checkRange
set_option maxRecDepth 20000 in
theorem ggX7_block_X0_blockCount : GoodIn wsX7_block wsX0_blockCount := goodIn_r _ [20, 21, 56, 57] (by decide +kernel) (by decide +kernel)
set_option maxRecDepth 20000 in
theorem gX7_block_X0_blockCount : GoodIn wsX7_block (wsV RX7 175 RX0 yX0_blockCount wsX0_blockCount) := goodIn_app (goodIn_of _ (by decide +kernel)) ggX7_block_X0_blockCount
set_option maxRecDepth 20000 in
theorem ggX7_block_X7_checkThere : GoodIn wsX7_block wsX7_checkThere := goodIn_ca (goodIn_r _ [24, 25, 26] (by decide +kernel) (by decide +kernel)) (goodIn_sub (fun _ h => List.mem_cons_of_mem _ (List.mem_append_right _ h)) (by decide +kernel))
set_option maxRecDepth 20000 in
theorem gX7_block_X7_checkThere : GoodIn wsX7_block (va_wsS RX7 159 yX7_checkThere wsX7_checkThere) := goodIn_app (goodIn_of _ (by decide +kernel)) ggX7_block_X7_checkThere
set_option maxRecDepth 20000 in
theorem ggX7_block_X0_blockSign : GoodIn wsX7_block wsX0_blockSign := goodIn_r _ [30, 21, 31, 32, 33, 34, 35, 36, 37, 19, 38, 39, 40, 41, 42, 43, 44, 45, 46, 47, 56, 57] (by decide +kernel) (by decide +kernel)
set_option maxRecDepth 20000 in
theorem gX7_block_X0_blockSign : GoodIn wsX7_block (wsV RX7 178 RX0 yX0_blockSign wsX0_blockSign) := goodIn_app (goodIn_of _ (by decide +kernel)) ggX7_block_X0_blockSign
set_option maxRecDepth 20000 in
theorem ggX7_step_X7_checkWire : GoodIn wsX7_step wsX7_checkWire := goodIn_ca (goodIn_r _ [6, 7, 8] (by decide +kernel) (by decide +kernel)) (goodIn_sub (fun _ h => List.mem_cons_of_mem _ (List.mem_append_left _ (List.mem_append_left _ (List.mem_append_right _ h)))) (by decide +kernel))
set_option maxRecDepth 20000 in
theorem gX7_step_X7_checkWire : GoodIn wsX7_step (va_wsS RX7 51 yX7_checkWire wsX7_checkWire) := goodIn_app (goodIn_of _ (by decide +kernel)) ggX7_step_X7_checkWire
set_option maxRecDepth 20000 in
theorem ggX7_step_X7_checkStepKind : GoodIn wsX7_step wsX7_checkStepKind := goodIn_ca (goodIn_r _ [11, 12, 13] (by decide +kernel) (by decide +kernel)) (goodIn_sub (fun _ h => List.mem_cons_of_mem _ (List.mem_append_left _ (List.mem_append_right _ h))) (by decide +kernel))
set_option maxRecDepth 20000 in
theorem gX7_step_X7_checkStepKind : GoodIn wsX7_step (va_wsS RX7 182 yX7_checkStepKind wsX7_checkStepKind) := goodIn_app (goodIn_of _ (by decide +kernel)) ggX7_step_X7_checkStepKind
set_option maxRecDepth 20000 in
theorem ggX7_step_X7_checkRange : GoodIn wsX7_step wsX7_checkRange := goodIn_ca (goodIn_r _ [16, 12, 13] (by decide +kernel) (by decide +kernel)) (goodIn_sub (fun _ h => List.mem_cons_of_mem _ (List.mem_append_left _ (List.mem_append_right _ h))) (by decide +kernel))
set_option maxRecDepth 20000 in
theorem gX7_step_X7_checkRange : GoodIn wsX7_step (va_wsS RX7 58 yX7_checkRange wsX7_checkRange) := goodIn_app (goodIn_of _ (by decide +kernel)) ggX7_step_X7_checkRange
set_option maxRecDepth 20000 in
theorem ggX7_step_X7_checkFreeStep : GoodIn wsX7_step wsX7_checkFreeStep := goodIn_ca (goodIn_r _ [20, 21, 22, 1, 2, 32, 33, 34, 35, 36, 37, 38, 39, 40, 41, 42, 43] (by decide +kernel) (by decide +kernel)) (goodIn_sub (fun _ h => List.mem_cons_of_mem _ (List.mem_append_right _ h)) (by decide +kernel))
set_option maxRecDepth 20000 in
theorem gX7_step_X7_checkFreeStep : GoodIn wsX7_step (wsV RX7 185 RX7 yX7_checkFreeStep wsX7_checkFreeStep) := goodIn_app (goodIn_of _ (by decide +kernel)) ggX7_step_X7_checkFreeStep
set_option maxRecDepth 20000 in
theorem ggX7_step_X4_addStep : GoodIn wsX7_step wsX4_addStep := goodIn_r _ [27, 28, 29, 30, 31, 40, 41, 42, 43] (by decide +kernel) (by decide +kernel)
set_option maxRecDepth 20000 in
theorem gX7_step_X4_addStep : GoodIn wsX7_step (wsV RX7 188 RX4 yX4_addStep wsX4_addStep) := goodIn_app (goodIn_of _ (by decide +kernel)) ggX7_step_X4_addStep
set_option maxRecDepth 20000 in
theorem ggX7_trigger_X7_checkCapture : GoodIn wsX7_trigger wsX7_checkCapture := goodIn_ca (goodIn_r _ [7, 8, 9] (by decide +kernel) (by decide +kernel)) (goodIn_sub (fun _ h => List.mem_cons_of_mem _ (List.mem_append_left _ (List.mem_append_left _ (List.mem_append_right _ h)))) (by decide +kernel))
set_option maxRecDepth 20000 in
theorem gX7_trigger_X7_checkCapture : GoodIn wsX7_trigger (va_wsS RX7 141 yX7_checkCapture wsX7_checkCapture) := goodIn_app (goodIn_of _ (by decide +kernel)) ggX7_trigger_X7_checkCapture
set_option maxRecDepth 20000 in
theorem ggX7_trigger_X7_checkUse : GoodIn wsX7_trigger wsX7_checkUse := goodIn_ca (goodIn_r _ [12, 13, 14] (by decide +kernel) (by decide +kernel)) (goodIn_sub (fun _ h => List.mem_cons_of_mem _ (List.mem_append_left _ (List.mem_append_right _ h))) (by decide +kernel))
set_option maxRecDepth 20000 in
theorem gX7_trigger_X7_checkUse : GoodIn wsX7_trigger (va_wsS RX7 193 yX7_checkUse wsX7_checkUse) := goodIn_app (goodIn_of _ (by decide +kernel)) ggX7_trigger_X7_checkUse
set_option maxRecDepth 20000 in
theorem ggX7_trigger_X4_metIn : GoodIn wsX7_trigger wsX4_metIn := goodIn_r _ [19, 20, 21, 22, 23, 24, 25, 18, 26, 27, 28, 29, 30, 31, 32, 33, 34, 35, 36, 37, 38, 39, 40, 41, 42, 43, 44, 45, 46, 47, 48, 49, 50, 51, 52, 53, 54, 68, 69, 70, 71, 72, 73] (by decide +kernel) (by decide +kernel)
set_option maxRecDepth 20000 in
theorem gX7_trigger_X4_metIn : GoodIn wsX7_trigger (wsV RX7 196 RX4 yX4_metIn wsX4_metIn) := goodIn_app (goodIn_of _ (by decide +kernel)) ggX7_trigger_X4_metIn
set_option maxRecDepth 20000 in
theorem ggX7_trigger_X7_checkThere : GoodIn wsX7_trigger wsX7_checkThere := goodIn_ca (goodIn_r _ [57, 58, 59] (by decide +kernel) (by decide +kernel)) (goodIn_sub (fun _ h => List.mem_cons_of_mem _ (List.mem_append_right _ h)) (by decide +kernel))
set_option maxRecDepth 20000 in
theorem gX7_trigger_X7_checkThere : GoodIn wsX7_trigger (va_wsS RX7 159 yX7_checkThere wsX7_checkThere) := goodIn_app (goodIn_of _ (by decide +kernel)) ggX7_trigger_X7_checkThere
set_option maxRecDepth 20000 in
theorem ggX7_decodeSerial_X7_checkCapture : GoodIn wsX7_decodeSerial wsX7_checkCapture := goodIn_ca (goodIn_r _ [8, 9, 10] (by decide +kernel) (by decide +kernel)) (goodIn_sub (fun _ h => List.mem_cons_of_mem _ (List.mem_append_left _ (List.mem_append_right _ h))) (by decide +kernel))
set_option maxRecDepth 20000 in
theorem gX7_decodeSerial_X7_checkCapture : GoodIn wsX7_decodeSerial (va_wsS RX7 141 yX7_checkCapture wsX7_checkCapture) := goodIn_app (goodIn_of _ (by decide +kernel)) ggX7_decodeSerial_X7_checkCapture
set_option maxRecDepth 20000 in
theorem ggX7_decodeSerial_X7_checkWire : GoodIn wsX7_decodeSerial wsX7_checkWire := goodIn_ca (goodIn_r _ [13, 9, 10] (by decide +kernel) (by decide +kernel)) (goodIn_sub (fun _ h => List.mem_cons_of_mem _ (List.mem_append_left _ (List.mem_append_right _ h))) (by decide +kernel))
set_option maxRecDepth 20000 in
theorem gX7_decodeSerial_X7_checkWire : GoodIn wsX7_decodeSerial (va_wsS RX7 51 yX7_checkWire wsX7_checkWire) := goodIn_app (goodIn_of _ (by decide +kernel)) ggX7_decodeSerial_X7_checkWire
set_option maxRecDepth 20000 in
theorem ggX7_decodeSerial_X7_checkRange : GoodIn wsX7_decodeSerial wsX7_checkRange := goodIn_ca (goodIn_r _ [16, 17, 18] (by decide +kernel) (by decide +kernel)) (goodIn_sub (fun _ h => List.mem_cons_of_mem _ (List.mem_append_right _ h)) (by decide +kernel))
set_option maxRecDepth 20000 in
theorem gX7_decodeSerial_X7_checkRange : GoodIn wsX7_decodeSerial (va_wsS RX7 58 yX7_checkRange wsX7_checkRange) := goodIn_app (goodIn_of _ (by decide +kernel)) ggX7_decodeSerial_X7_checkRange
set_option maxRecDepth 20000 in
theorem ggX7_decodeSerial_X7_checkParity : GoodIn wsX7_decodeSerial wsX7_checkParity := goodIn_ca (goodIn_r _ [21, 17, 18] (by decide +kernel) (by decide +kernel)) (goodIn_sub (fun _ h => List.mem_cons_of_mem _ (List.mem_append_right _ h)) (by decide +kernel))
set_option maxRecDepth 20000 in
theorem gX7_decodeSerial_X7_checkParity : GoodIn wsX7_decodeSerial (va_wsS RX7 90 yX7_checkParity wsX7_checkParity) := goodIn_app (goodIn_of _ (by decide +kernel)) ggX7_decodeSerial_X7_checkParity
set_option maxRecDepth 20000 in
theorem ggX7_decodeSerial_X0_fallsAt : GoodIn wsX7_decodeSerial wsX0_fallsAt := goodIn_r _ [26, 27, 28, 29, 25, 30, 31, 32, 33, 34, 35, 36, 83, 84] (by decide +kernel) (by decide +kernel)
set_option maxRecDepth 20000 in
theorem gX7_decodeSerial_X0_fallsAt : GoodIn wsX7_decodeSerial (wsV RX7 201 RX0 yX0_fallsAt wsX0_fallsAt) := goodIn_app (goodIn_of _ (by decide +kernel)) ggX7_decodeSerial_X0_fallsAt
set_option maxRecDepth 20000 in
theorem ggX7_decodeSerial_X7_tellSerial : GoodIn wsX7_decodeSerial wsX7_tellSerial := goodIn_r _ [40, 4, 1, 41, 42, 7, 43, 44, 45, 46, 47, 28, 29, 25, 30, 31, 32, 33, 34, 35, 36, 48, 49, 50, 51, 52, 53, 54, 55, 56, 57, 58, 59, 60, 61, 62, 63, 64, 65, 66, 67, 68, 83, 84, 69, 70, 71, 72, 73, 74, 75, 76, 77, 78, 79, 80, 81, 82] (by decide +kernel) (by decide +kernel)
set_option maxRecDepth 20000 in
theorem gX7_decodeSerial_X7_tellSerial : GoodIn wsX7_decodeSerial (wsV RX7 204 RX7 yX7_tellSerial wsX7_tellSerial) := goodIn_app (goodIn_of _ (by decide +kernel)) ggX7_decodeSerial_X7_tellSerial
set_option maxRecDepth 20000 in
theorem ggX7_decodeTwo_X7_checkCapture : GoodIn wsX7_decodeTwo wsX7_checkCapture := goodIn_ca (goodIn_r _ [12, 13, 14] (by decide +kernel) (by decide +kernel)) (goodIn_sub (fun _ h => List.mem_cons_of_mem _ (List.mem_append_left _ (List.mem_append_right _ h))) (by decide +kernel))
set_option maxRecDepth 20000 in
theorem gX7_decodeTwo_X7_checkCapture : GoodIn wsX7_decodeTwo (va_wsS RX7 141 yX7_checkCapture wsX7_checkCapture) := goodIn_app (goodIn_of _ (by decide +kernel)) ggX7_decodeTwo_X7_checkCapture
set_option maxRecDepth 20000 in
theorem ggX7_decodeTwo_X7_checkWire : GoodIn wsX7_decodeTwo wsX7_checkWire := goodIn_ca (goodIn_r _ [17, 13, 14] (by decide +kernel) (by decide +kernel)) (goodIn_sub (fun _ h => List.mem_cons_of_mem _ (List.mem_append_left _ (List.mem_append_right _ h))) (by decide +kernel))
set_option maxRecDepth 20000 in
theorem gX7_decodeTwo_X7_checkWire : GoodIn wsX7_decodeTwo (va_wsS RX7 51 yX7_checkWire wsX7_checkWire) := goodIn_app (goodIn_of _ (by decide +kernel)) ggX7_decodeTwo_X7_checkWire
set_option maxRecDepth 20000 in
theorem ggX7_decodeTwo_X7_checkApart : GoodIn wsX7_decodeTwo wsX7_checkApart := goodIn_ca (goodIn_r _ [20, 21, 22] (by decide +kernel) (by decide +kernel)) (goodIn_sub (fun _ h => List.mem_cons_of_mem _ (List.mem_append_right _ h)) (by decide +kernel))
set_option maxRecDepth 20000 in
theorem gX7_decodeTwo_X7_checkApart : GoodIn wsX7_decodeTwo (va_wsS RX7 114 yX7_checkApart wsX7_checkApart) := goodIn_app (goodIn_of _ (by decide +kernel)) ggX7_decodeTwo_X7_checkApart
set_option maxRecDepth 20000 in
theorem ggX7_decodeTwo_X5_init : GoodIn wsX7_decodeTwo wsX5_init := goodIn_r _ [25, 26, 27, 28, 29, 30, 106, 107, 108, 109, 110, 111, 112, 113, 114, 115] (by decide +kernel) (by decide +kernel)
set_option maxRecDepth 20000 in
theorem gX7_decodeTwo_X5_init : GoodIn wsX7_decodeTwo (wsX5_init) := ggX7_decodeTwo_X5_init
set_option maxRecDepth 20000 in
theorem ggX7_decodeTwo_X0_risesAt : GoodIn wsX7_decodeTwo wsX0_risesAt := goodIn_r _ [35, 36, 37, 38, 34, 39, 40, 41, 42, 43, 44, 45, 116, 117] (by decide +kernel) (by decide +kernel)
set_option maxRecDepth 20000 in
theorem gX7_decodeTwo_X0_risesAt : GoodIn wsX7_decodeTwo (wsV RX7 213 RX0 yX0_risesAt wsX0_risesAt) := goodIn_app (goodIn_of _ (by decide +kernel)) ggX7_decodeTwo_X0_risesAt
set_option maxRecDepth 20000 in
theorem ggX7_decodeTwo_X0_isHighAt : GoodIn wsX7_decodeTwo wsX0_isHighAt := goodIn_r _ [39, 40, 41, 42, 43, 34, 44, 45, 116, 117] (by decide +kernel) (by decide +kernel)
set_option maxRecDepth 20000 in
theorem gX7_decodeTwo_X0_isHighAt : GoodIn wsX7_decodeTwo (wsV RX7 216 RX0 yX0_isHighAt wsX0_isHighAt) := goodIn_app (goodIn_of _ (by decide +kernel)) ggX7_decodeTwo_X0_isHighAt
set_option maxRecDepth 20000 in
theorem ggX7_decodeTwo_X5_takeBit : GoodIn wsX7_decodeTwo wsX5_takeBit := goodIn_r _ [50, 51, 52, 53, 54, 55, 56, 57, 6, 58, 29, 59, 60, 61, 62, 30, 63, 64, 65, 66, 67, 68, 69, 70, 71, 72, 73, 74, 75, 76, 77, 78, 79, 106, 107, 108, 109, 110, 111, 112, 113, 114, 115, 100, 101, 102, 103, 104, 105, 118] (by decide +kernel) (by decide +kernel)
set_option maxRecDepth 20000 in
theorem gX7_decodeTwo_X5_takeBit : GoodIn wsX7_decodeTwo (wsV RX7 218 RX5 yX5_takeBit wsX5_takeBit) := goodIn_app (goodIn_of _ (by decide +kernel)) ggX7_decodeTwo_X5_takeBit
set_option maxRecDepth 20000 in
theorem ggX7_decodeTwo_X0_fallsAt : GoodIn wsX7_decodeTwo wsX0_fallsAt := goodIn_r _ [83, 36, 37, 38, 34, 39, 40, 41, 42, 43, 44, 45, 116, 117] (by decide +kernel) (by decide +kernel)
set_option maxRecDepth 20000 in
theorem gX7_decodeTwo_X0_fallsAt : GoodIn wsX7_decodeTwo (wsV RX7 201 RX0 yX0_fallsAt wsX0_fallsAt) := goodIn_app (goodIn_of _ (by decide +kernel)) ggX7_decodeTwo_X0_fallsAt
set_option maxRecDepth 20000 in
theorem ggX7_decodeTwo_X5_takeStart : GoodIn wsX7_decodeTwo wsX5_takeStart := goodIn_r _ [87, 29, 51, 52, 59, 63, 64, 65, 66, 67, 68, 69, 70, 71, 72, 73, 106, 107, 108, 109, 110, 111, 112, 113, 114, 115, 100, 101, 102, 103, 104, 105] (by decide +kernel) (by decide +kernel)
set_option maxRecDepth 20000 in
theorem gX7_decodeTwo_X5_takeStart : GoodIn wsX7_decodeTwo (wsV RX7 221 RX5 yX5_takeStart wsX5_takeStart) := goodIn_app (goodIn_of _ (by decide +kernel)) ggX7_decodeTwo_X5_takeStart
set_option maxRecDepth 20000 in
theorem ggX7_decodeTwo_X5_takeEnd : GoodIn wsX7_decodeTwo wsX5_takeEnd := goodIn_r _ [91, 29, 51, 63, 64, 65, 66, 67, 68, 69, 70, 71, 72, 73, 106, 107, 108, 109, 110, 111, 112, 113, 114, 115, 100, 101, 102, 103, 104, 105] (by decide +kernel) (by decide +kernel)
set_option maxRecDepth 20000 in
theorem gX7_decodeTwo_X5_takeEnd : GoodIn wsX7_decodeTwo (wsV RX7 224 RX5 yX5_takeEnd wsX5_takeEnd) := goodIn_app (goodIn_of _ (by decide +kernel)) ggX7_decodeTwo_X5_takeEnd
set_option maxRecDepth 20000 in
theorem ggX7_decodeFour_X7_checkCapture : GoodIn wsX7_decodeFour wsX7_checkCapture := goodIn_ca (goodIn_r _ [11, 12, 13] (by decide +kernel) (by decide +kernel)) (goodIn_sub (fun _ h => List.mem_cons_of_mem _ (List.mem_append_left _ (List.mem_append_right _ h))) (by decide +kernel))
set_option maxRecDepth 20000 in
theorem gX7_decodeFour_X7_checkCapture : GoodIn wsX7_decodeFour (va_wsS RX7 141 yX7_checkCapture wsX7_checkCapture) := goodIn_app (goodIn_of _ (by decide +kernel)) ggX7_decodeFour_X7_checkCapture
set_option maxRecDepth 20000 in
theorem ggX7_decodeFour_X7_checkWire : GoodIn wsX7_decodeFour wsX7_checkWire := goodIn_ca (goodIn_r _ [16, 12, 13] (by decide +kernel) (by decide +kernel)) (goodIn_sub (fun _ h => List.mem_cons_of_mem _ (List.mem_append_left _ (List.mem_append_right _ h))) (by decide +kernel))
set_option maxRecDepth 20000 in
theorem gX7_decodeFour_X7_checkWire : GoodIn wsX7_decodeFour (va_wsS RX7 51 yX7_checkWire wsX7_checkWire) := goodIn_app (goodIn_of _ (by decide +kernel)) ggX7_decodeFour_X7_checkWire
set_option maxRecDepth 20000 in
theorem ggX7_decodeFour_X7_checkThreeApart : GoodIn wsX7_decodeFour wsX7_checkThreeApart := goodIn_ca (goodIn_r _ [19, 20, 21, 10, 22, 23, 24] (by decide +kernel) (by decide +kernel)) (goodIn_sub (fun _ h => List.mem_cons_of_mem _ (List.mem_append_right _ h)) (by decide +kernel))
set_option maxRecDepth 20000 in
theorem gX7_decodeFour_X7_checkThreeApart : GoodIn wsX7_decodeFour (va_wsS RX7 126 yX7_checkThreeApart wsX7_checkThreeApart) := goodIn_app (goodIn_of _ (by decide +kernel)) ggX7_decodeFour_X7_checkThreeApart
set_option maxRecDepth 20000 in
theorem ggX7_decodeFour_X7_checkRange : GoodIn wsX7_decodeFour wsX7_checkRange := goodIn_ca (goodIn_r _ [27, 23, 24] (by decide +kernel) (by decide +kernel)) (goodIn_sub (fun _ h => List.mem_cons_of_mem _ (List.mem_append_right _ h)) (by decide +kernel))
set_option maxRecDepth 20000 in
theorem gX7_decodeFour_X7_checkRange : GoodIn wsX7_decodeFour (va_wsS RX7 58 yX7_checkRange wsX7_checkRange) := goodIn_app (goodIn_of _ (by decide +kernel)) ggX7_decodeFour_X7_checkRange
set_option maxRecDepth 20000 in
theorem ggX7_decodeFour_X2_init : GoodIn wsX7_decodeFour wsX2_init := goodIn_r _ [30, 31, 32, 33, 34, 91, 92, 93, 94] (by decide +kernel) (by decide +kernel)
set_option maxRecDepth 20000 in
theorem gX7_decodeFour_X2_init : GoodIn wsX7_decodeFour (wsX2_init) := ggX7_decodeFour_X2_init
set_option maxRecDepth 20000 in
theorem ggX7_decodeFour_X0_risesAt : GoodIn wsX7_decodeFour wsX0_risesAt := goodIn_r _ [39, 40, 41, 42, 38, 43, 44, 45, 46, 47, 48, 49, 95, 96] (by decide +kernel) (by decide +kernel)
set_option maxRecDepth 20000 in
theorem gX7_decodeFour_X0_risesAt : GoodIn wsX7_decodeFour (wsV RX7 213 RX0 yX0_risesAt wsX0_risesAt) := goodIn_app (goodIn_of _ (by decide +kernel)) ggX7_decodeFour_X0_risesAt
set_option maxRecDepth 20000 in
theorem ggX7_decodeFour_X2_takeSelectRise : GoodIn wsX7_decodeFour wsX2_takeSelectRise := goodIn_r _ [53, 54, 34, 55, 56, 57, 58, 59, 60, 61, 62, 63, 64, 65, 66, 67, 91, 92, 93, 94, 85, 86, 87, 88, 89, 90] (by decide +kernel) (by decide +kernel)
set_option maxRecDepth 20000 in
theorem gX7_decodeFour_X2_takeSelectRise : GoodIn wsX7_decodeFour (wsV RX7 232 RX2 yX2_takeSelectRise wsX2_takeSelectRise) := goodIn_app (goodIn_of _ (by decide +kernel)) ggX7_decodeFour_X2_takeSelectRise
set_option maxRecDepth 20000 in
theorem ggX7_decodeFour_X0_isHighAt : GoodIn wsX7_decodeFour wsX0_isHighAt := goodIn_r _ [43, 44, 45, 46, 47, 38, 48, 49, 95, 96] (by decide +kernel) (by decide +kernel)
set_option maxRecDepth 20000 in
theorem gX7_decodeFour_X0_isHighAt : GoodIn wsX7_decodeFour (wsV RX7 216 RX0 yX0_isHighAt wsX0_isHighAt) := goodIn_app (goodIn_of _ (by decide +kernel)) ggX7_decodeFour_X0_isHighAt
set_option maxRecDepth 20000 in
theorem ggX7_decodeFour_X0_fallsAt : GoodIn wsX7_decodeFour wsX0_fallsAt := goodIn_r _ [72, 40, 41, 42, 38, 43, 44, 45, 46, 47, 48, 49, 95, 96] (by decide +kernel) (by decide +kernel)
set_option maxRecDepth 20000 in
theorem gX7_decodeFour_X0_fallsAt : GoodIn wsX7_decodeFour (wsV RX7 201 RX0 yX0_fallsAt wsX0_fallsAt) := goodIn_app (goodIn_of _ (by decide +kernel)) ggX7_decodeFour_X0_fallsAt
set_option maxRecDepth 20000 in
theorem ggX7_decodeFour_X2_takeBit : GoodIn wsX7_decodeFour wsX2_takeBit := goodIn_r _ [76, 54, 55, 56, 34, 57, 58, 59, 60, 61, 62, 63, 64, 65, 66, 67, 91, 92, 93, 94, 85, 86, 87, 88, 89, 90] (by decide +kernel) (by decide +kernel)
set_option maxRecDepth 20000 in
theorem gX7_decodeFour_X2_takeBit : GoodIn wsX7_decodeFour (wsV RX7 235 RX2 yX2_takeBit wsX2_takeBit) := goodIn_app (goodIn_of _ (by decide +kernel)) ggX7_decodeFour_X2_takeBit
set_option maxRecDepth 20000 in
theorem ggX7_kind_X7_checkNote : GoodIn wsX7_kind wsX7_checkNote := goodIn_ca (goodIn_r _ [7, 8, 9, 1, 10, 11, 12, 13, 14, 15, 16, 17, 18, 19, 20, 21, 22, 23, 24] (by decide +kernel) (by decide +kernel)) (goodIn_sub (fun _ h => List.mem_cons_of_mem _ (List.mem_append_right _ h)) (by decide +kernel))
set_option maxRecDepth 20000 in
theorem gX7_kind_X7_checkNote : GoodIn wsX7_kind (wsV RX7 236 RX7 yX7_checkNote wsX7_checkNote) := goodIn_app (goodIn_of _ (by decide +kernel)) ggX7_kind_X7_checkNote
set_option maxRecDepth 20000 in
theorem ggX7_begin_X7_checkNote : GoodIn wsX7_begin wsX7_checkNote := goodIn_ca (goodIn_r _ [7, 8, 9, 1, 10, 11, 12, 13, 14, 15, 16, 17, 18, 19, 20, 21, 22, 23, 24] (by decide +kernel) (by decide +kernel)) (goodIn_sub (fun _ h => List.mem_cons_of_mem _ (List.mem_append_right _ h)) (by decide +kernel))
set_option maxRecDepth 20000 in
theorem gX7_begin_X7_checkNote : GoodIn wsX7_begin (wsV RX7 236 RX7 yX7_checkNote wsX7_checkNote) := goodIn_app (goodIn_of _ (by decide +kernel)) ggX7_begin_X7_checkNote
set_option maxRecDepth 20000 in
theorem ggX7_end_X7_checkNote : GoodIn wsX7_end wsX7_checkNote := goodIn_ca (goodIn_r _ [7, 8, 9, 1, 10, 11, 12, 13, 14, 15, 16, 17, 18, 19, 20, 21, 22, 23, 24] (by decide +kernel) (by decide +kernel)) (goodIn_sub (fun _ h => List.mem_cons_of_mem _ (List.mem_append_right _ h)) (by decide +kernel))
set_option maxRecDepth 20000 in
theorem gX7_end_X7_checkNote : GoodIn wsX7_end (wsV RX7 236 RX7 yX7_checkNote wsX7_checkNote) := goodIn_app (goodIn_of _ (by decide +kernel)) ggX7_end_X7_checkNote
set_option maxRecDepth 20000 in
theorem ggX7_value_X7_checkNote : GoodIn wsX7_value wsX7_checkNote := goodIn_ca (goodIn_r _ [7, 8, 9, 1, 10, 11, 12, 13, 14, 15, 16, 17, 18, 19, 20, 21, 22, 23, 24] (by decide +kernel) (by decide +kernel)) (goodIn_sub (fun _ h => List.mem_cons_of_mem _ (List.mem_append_right _ h)) (by decide +kernel))
set_option maxRecDepth 20000 in
theorem gX7_value_X7_checkNote : GoodIn wsX7_value (wsV RX7 236 RX7 yX7_checkNote wsX7_checkNote) := goodIn_app (goodIn_of _ (by decide +kernel)) ggX7_value_X7_checkNote
set_option maxRecDepth 20000 in
theorem ggX7_fault_X7_checkNote : GoodIn wsX7_fault wsX7_checkNote := goodIn_ca (goodIn_r _ [7, 8, 9, 1, 10, 11, 12, 13, 14, 15, 16, 17, 18, 19, 20, 21, 22, 23, 24] (by decide +kernel) (by decide +kernel)) (goodIn_sub (fun _ h => List.mem_cons_of_mem _ (List.mem_append_right _ h)) (by decide +kernel))
set_option maxRecDepth 20000 in
theorem gX7_fault_X7_checkNote : GoodIn wsX7_fault (wsV RX7 236 RX7 yX7_checkNote wsX7_checkNote) := goodIn_app (goodIn_of _ (by decide +kernel)) ggX7_fault_X7_checkNote
set_option maxRecDepth 20000 in
theorem ggX7_rate_X7_shortestRunOf : GoodIn wsX7_rate wsX7_shortestRunOf := goodIn_ca (goodIn_ca (goodIn_r _ [5, 6, 7, 8, 4, 9, 10, 11, 12, 13, 14, 15, 16, 17, 18, 19, 20, 21, 22, 23, 24, 25, 26, 27, 28, 29, 30, 31, 32, 33, 34, 35, 36, 37, 38, 39, 40, 41, 42, 43, 44, 45, 46, 47, 48] (by decide +kernel) (by decide +kernel)) (goodIn_sub (fun _ h => List.mem_cons_of_mem _ (List.mem_append_left _ (List.mem_append_right _ h))) (by decide +kernel))) (goodIn_sub (fun _ h => List.mem_cons_of_mem _ (List.mem_append_right _ h)) (by decide +kernel))
set_option maxRecDepth 20000 in
theorem gX7_rate_X7_shortestRunOf : GoodIn wsX7_rate (wsV RX7 172 RX7 yX7_shortestRunOf wsX7_shortestRunOf) := goodIn_app (goodIn_of _ (by decide +kernel)) ggX7_rate_X7_shortestRunOf
set_option maxRecDepth 20000 in
theorem ggX7_register_X7_checkRange : GoodIn wsX7_register wsX7_checkRange := goodIn_ca (goodIn_r _ [5, 6, 7] (by decide +kernel) (by decide +kernel)) (goodIn_sub (fun _ h => List.mem_cons_of_mem _ (List.mem_append_right _ h)) (by decide +kernel))
set_option maxRecDepth 20000 in
theorem gX7_register_X7_checkRange : GoodIn wsX7_register (va_wsS RX7 58 yX7_checkRange wsX7_checkRange) := goodIn_app (goodIn_of _ (by decide +kernel)) ggX7_register_X7_checkRange
set_option maxRecDepth 20000 in
theorem ggX7_register_X1_read : GoodIn wsX7_register wsX1_read := goodIn_r _ [12, 13, 22] (by decide +kernel) (by decide +kernel)
set_option maxRecDepth 20000 in
theorem gX7_register_X1_read : GoodIn wsX7_register (wsV RX7 256 RX1 yX1_read wsX1_read) := goodIn_app (goodIn_of _ (by decide +kernel)) ggX7_register_X1_read
set_option maxRecDepth 20000 in
theorem ggX7_follows_X7_checkRange : GoodIn wsX7_follows wsX7_checkRange := goodIn_ca (goodIn_r _ [5, 6, 7] (by decide +kernel) (by decide +kernel)) (goodIn_sub (fun _ h => List.mem_cons_of_mem _ (List.mem_append_right _ h)) (by decide +kernel))
set_option maxRecDepth 20000 in
theorem gX7_follows_X7_checkRange : GoodIn wsX7_follows (va_wsS RX7 58 yX7_checkRange wsX7_checkRange) := goodIn_app (goodIn_of _ (by decide +kernel)) ggX7_follows_X7_checkRange
set_option maxRecDepth 20000 in
theorem ggX7_follows_X3_pairCount : GoodIn wsX7_follows wsX3_pairCount := goodIn_r _ [12, 13, 14, 15, 24, 25, 26, 27, 28, 29] (by decide +kernel) (by decide +kernel)
set_option maxRecDepth 20000 in
theorem gX7_follows_X3_pairCount : GoodIn wsX7_follows (wsV RX7 259 RX3 yX3_pairCount wsX3_pairCount) := goodIn_app (goodIn_of _ (by decide +kernel)) ggX7_follows_X3_pairCount
set_option maxRecDepth 20000 in
theorem ggX7_alike_X7_checkRange : GoodIn wsX7_alike wsX7_checkRange := goodIn_ca (goodIn_r _ [4, 5, 6] (by decide +kernel) (by decide +kernel)) (goodIn_sub (fun _ h => List.mem_cons_of_mem _ (List.mem_append_right _ h)) (by decide +kernel))
set_option maxRecDepth 20000 in
theorem gX7_alike_X7_checkRange : GoodIn wsX7_alike (va_wsS RX7 58 yX7_checkRange wsX7_checkRange) := goodIn_app (goodIn_of _ (by decide +kernel)) ggX7_alike_X7_checkRange
set_option maxRecDepth 20000 in
theorem ggX7_alike_X7_alikeCount : GoodIn wsX7_alike wsX7_alikeCount := goodIn_r _ [10, 11, 12, 13, 14, 15, 16, 17, 18, 19, 20, 21, 22, 23, 24, 25, 26, 27, 28, 29, 30, 31, 32, 33, 34] (by decide +kernel) (by decide +kernel)
set_option maxRecDepth 20000 in
theorem gX7_alike_X7_alikeCount : GoodIn wsX7_alike (wsV RX7 262 RX7 yX7_alikeCount wsX7_alikeCount) := goodIn_app (goodIn_of _ (by decide +kernel)) ggX7_alike_X7_alikeCount
set_option maxRecDepth 20000 in
theorem ggX7_differs_X7_checkRange : GoodIn wsX7_differs wsX7_checkRange := goodIn_ca (goodIn_r _ [4, 5, 6] (by decide +kernel) (by decide +kernel)) (goodIn_sub (fun _ h => List.mem_cons_of_mem _ (List.mem_append_left _ (List.mem_append_right _ h))) (by decide +kernel))
set_option maxRecDepth 20000 in
theorem gX7_differs_X7_checkRange : GoodIn wsX7_differs (va_wsS RX7 58 yX7_checkRange wsX7_checkRange) := goodIn_app (goodIn_of _ (by decide +kernel)) ggX7_differs_X7_checkRange
set_option maxRecDepth 20000 in
theorem ggX7_differs_X7_firstUnlike : GoodIn wsX7_differs wsX7_firstUnlike := goodIn_r _ [10, 11, 12, 13, 14, 15, 16, 17, 18, 19, 20, 21, 22, 23, 24, 30, 31, 32, 33, 34, 35, 36, 37, 38, 39] (by decide +kernel) (by decide +kernel)
set_option maxRecDepth 20000 in
theorem gX7_differs_X7_firstUnlike : GoodIn wsX7_differs (wsV RX7 265 RX7 yX7_firstUnlike wsX7_firstUnlike) := goodIn_app (goodIn_of _ (by decide +kernel)) ggX7_differs_X7_firstUnlike
set_option maxRecDepth 20000 in
theorem ggX7_differs_X7_checkThere : GoodIn wsX7_differs wsX7_checkThere := goodIn_ca (goodIn_r _ [27, 28, 29] (by decide +kernel) (by decide +kernel)) (goodIn_sub (fun _ h => List.mem_cons_of_mem _ (List.mem_append_right _ h)) (by decide +kernel))
set_option maxRecDepth 20000 in
theorem gX7_differs_X7_checkThere : GoodIn wsX7_differs (va_wsS RX7 159 yX7_checkThere wsX7_checkThere) := goodIn_app (goodIn_of _ (by decide +kernel)) ggX7_differs_X7_checkThere
set_option maxRecDepth 20000 in
theorem ggX7_best_X7_checkRange : GoodIn wsX7_best wsX7_checkRange := goodIn_ca (goodIn_r _ [6, 7, 8] (by decide +kernel) (by decide +kernel)) (goodIn_sub (fun _ h => List.mem_cons_of_mem _ (List.mem_append_left _ (List.mem_append_right _ h))) (by decide +kernel))
set_option maxRecDepth 20000 in
theorem gX7_best_X7_checkRange : GoodIn wsX7_best (va_wsS RX7 58 yX7_checkRange wsX7_checkRange) := goodIn_app (goodIn_of _ (by decide +kernel)) ggX7_best_X7_checkRange
set_option maxRecDepth 20000 in
theorem ggX7_best_X7_checkUse : GoodIn wsX7_best wsX7_checkUse := goodIn_ca (goodIn_r _ [11, 12, 13] (by decide +kernel) (by decide +kernel)) (goodIn_sub (fun _ h => List.mem_cons_of_mem _ (List.mem_append_right _ h)) (by decide +kernel))
set_option maxRecDepth 20000 in
theorem gX7_best_X7_checkUse : GoodIn wsX7_best (va_wsS RX7 193 yX7_checkUse wsX7_checkUse) := goodIn_app (goodIn_of _ (by decide +kernel)) ggX7_best_X7_checkUse
set_option maxRecDepth 20000 in
theorem ggX7_best_X7_alikeCount : GoodIn wsX7_best wsX7_alikeCount := goodIn_r _ [17, 1, 2, 18, 19, 20, 21, 22, 23, 24, 25, 26, 27, 28, 29, 30, 31, 32, 33, 34, 35, 36, 37, 38, 39] (by decide +kernel) (by decide +kernel)
set_option maxRecDepth 20000 in
theorem gX7_best_X7_alikeCount : GoodIn wsX7_best (wsV RX7 262 RX7 yX7_alikeCount wsX7_alikeCount) := goodIn_app (goodIn_of _ (by decide +kernel)) ggX7_best_X7_alikeCount
set_option maxRecDepth 20000 in
theorem ggX7_checksum_X0_levelsAt : GoodIn wsX7_checksum wsX0_levelsAt := goodIn_r _ [13, 14, 15, 16, 17, 12, 18, 19, 28, 29] (by decide +kernel) (by decide +kernel)
set_option maxRecDepth 20000 in
theorem gX7_checksum_X0_levelsAt : GoodIn wsX7_checksum (wsV RX7 162 RX0 yX0_levelsAt wsX0_levelsAt) := goodIn_app (goodIn_of _ (by decide +kernel)) ggX7_checksum_X0_levelsAt
set_option maxRecDepth 20000 in
theorem ggX7_highShare_X7_checkCapture : GoodIn wsX7_highShare wsX7_checkCapture := goodIn_ca (goodIn_r _ [6, 7, 8] (by decide +kernel) (by decide +kernel)) (goodIn_sub (fun _ h => List.mem_cons_of_mem _ (List.mem_append_left _ (List.mem_append_right _ h))) (by decide +kernel))
set_option maxRecDepth 20000 in
theorem gX7_highShare_X7_checkCapture : GoodIn wsX7_highShare (va_wsS RX7 141 yX7_checkCapture wsX7_checkCapture) := goodIn_app (goodIn_of _ (by decide +kernel)) ggX7_highShare_X7_checkCapture
set_option maxRecDepth 20000 in
theorem ggX7_highShare_X7_checkWire : GoodIn wsX7_highShare wsX7_checkWire := goodIn_ca (goodIn_r _ [11, 7, 8] (by decide +kernel) (by decide +kernel)) (goodIn_sub (fun _ h => List.mem_cons_of_mem _ (List.mem_append_left _ (List.mem_append_right _ h))) (by decide +kernel))
set_option maxRecDepth 20000 in
theorem gX7_highShare_X7_checkWire : GoodIn wsX7_highShare (va_wsS RX7 51 yX7_checkWire wsX7_checkWire) := goodIn_app (goodIn_of _ (by decide +kernel)) ggX7_highShare_X7_checkWire
set_option maxRecDepth 20000 in
theorem ggX7_highShare_X7_checkThere : GoodIn wsX7_highShare wsX7_checkThere := goodIn_ca (goodIn_r _ [14, 15, 16] (by decide +kernel) (by decide +kernel)) (goodIn_sub (fun _ h => List.mem_cons_of_mem _ (List.mem_append_right _ h)) (by decide +kernel))
set_option maxRecDepth 20000 in
theorem gX7_highShare_X7_checkThere : GoodIn wsX7_highShare (va_wsS RX7 159 yX7_checkThere wsX7_checkThere) := goodIn_app (goodIn_of _ (by decide +kernel)) ggX7_highShare_X7_checkThere
set_option maxRecDepth 20000 in
theorem ggX7_highShare_X0_highCount : GoodIn wsX7_highShare wsX0_highCount := goodIn_r _ [21, 22, 23, 24, 25, 20, 26, 27, 28, 29, 30, 31, 40, 41] (by decide +kernel) (by decide +kernel)
set_option maxRecDepth 20000 in
theorem gX7_highShare_X0_highCount : GoodIn wsX7_highShare (wsV RX7 272 RX0 yX0_highCount wsX0_highCount) := goodIn_app (goodIn_of _ (by decide +kernel)) ggX7_highShare_X0_highCount
set_option maxRecDepth 20000 in
theorem ggX7_meanRun_X7_checkCapture : GoodIn wsX7_meanRun wsX7_checkCapture := goodIn_ca (goodIn_r _ [6, 7, 8] (by decide +kernel) (by decide +kernel)) (goodIn_sub (fun _ h => List.mem_cons_of_mem _ (List.mem_append_left _ (List.mem_append_right _ h))) (by decide +kernel))
set_option maxRecDepth 20000 in
theorem gX7_meanRun_X7_checkCapture : GoodIn wsX7_meanRun (va_wsS RX7 141 yX7_checkCapture wsX7_checkCapture) := goodIn_app (goodIn_of _ (by decide +kernel)) ggX7_meanRun_X7_checkCapture
set_option maxRecDepth 20000 in
theorem ggX7_meanRun_X7_checkWire : GoodIn wsX7_meanRun wsX7_checkWire := goodIn_ca (goodIn_r _ [11, 7, 8] (by decide +kernel) (by decide +kernel)) (goodIn_sub (fun _ h => List.mem_cons_of_mem _ (List.mem_append_left _ (List.mem_append_right _ h))) (by decide +kernel))
set_option maxRecDepth 20000 in
theorem gX7_meanRun_X7_checkWire : GoodIn wsX7_meanRun (va_wsS RX7 51 yX7_checkWire wsX7_checkWire) := goodIn_app (goodIn_of _ (by decide +kernel)) ggX7_meanRun_X7_checkWire
set_option maxRecDepth 20000 in
theorem ggX7_meanRun_X0_runCount : GoodIn wsX7_meanRun wsX0_runCount := goodIn_r _ [16, 17, 18, 19, 20, 15, 21, 22, 23, 24, 25, 26, 27, 28, 29, 30, 44, 45] (by decide +kernel) (by decide +kernel)
set_option maxRecDepth 20000 in
theorem gX7_meanRun_X0_runCount : GoodIn wsX7_meanRun (wsV RX7 166 RX0 yX0_runCount wsX0_runCount) := goodIn_app (goodIn_of _ (by decide +kernel)) ggX7_meanRun_X0_runCount
set_option maxRecDepth 20000 in
theorem ggX7_meanRun_X7_checkThere : GoodIn wsX7_meanRun wsX7_checkThere := goodIn_ca (goodIn_r _ [33, 34, 35] (by decide +kernel) (by decide +kernel)) (goodIn_sub (fun _ h => List.mem_cons_of_mem _ (List.mem_append_right _ h)) (by decide +kernel))
set_option maxRecDepth 20000 in
theorem gX7_meanRun_X7_checkThere : GoodIn wsX7_meanRun (va_wsS RX7 159 yX7_checkThere wsX7_checkThere) := goodIn_app (goodIn_of _ (by decide +kernel)) ggX7_meanRun_X7_checkThere
set_option maxRecDepth 20000 in
theorem ggX7_isSound_X0_areRunsWhole : GoodIn wsX7_isSound wsX0_areRunsWhole := goodIn_r _ [7, 8, 9, 10, 11, 6, 12, 13, 14, 15, 16, 17, 18, 19, 20, 21, 54, 55] (by decide +kernel) (by decide +kernel)
set_option maxRecDepth 20000 in
theorem gX7_isSound_X0_areRunsWhole : GoodIn wsX7_isSound (wsV RX7 275 RX0 yX0_areRunsWhole wsX0_areRunsWhole) := goodIn_app (goodIn_of _ (by decide +kernel)) ggX7_isSound_X0_areRunsWhole
set_option maxRecDepth 20000 in
theorem ggX7_isSound_X0_areChangesSeen : GoodIn wsX7_isSound wsX0_areChangesSeen := goodIn_r _ [25, 26, 27, 28, 6, 29, 8, 30, 31, 32, 33, 34, 35, 36, 37, 9, 10, 11, 12, 13, 14, 15, 16, 17, 18, 19, 20, 21, 54, 55] (by decide +kernel) (by decide +kernel)
set_option maxRecDepth 20000 in
theorem gX7_isSound_X0_areChangesSeen : GoodIn wsX7_isSound (wsV RX7 278 RX0 yX0_areChangesSeen wsX0_areChangesSeen) := goodIn_app (goodIn_of _ (by decide +kernel)) ggX7_isSound_X0_areChangesSeen
set_option maxRecDepth 20000 in
theorem ggX7_isSound_X3_areInOrder : GoodIn wsX7_isSound wsX3_areInOrder := goodIn_r _ [42, 43, 44, 45, 56, 57, 58, 59, 60, 61] (by decide +kernel) (by decide +kernel)
set_option maxRecDepth 20000 in
theorem gX7_isSound_X3_areInOrder : GoodIn wsX7_isSound (wsV RX7 281 RX3 yX3_areInOrder wsX3_areInOrder) := goodIn_app (goodIn_of _ (by decide +kernel)) ggX7_isSound_X3_areInOrder
set_option maxRecDepth 20000 in
theorem ggX7_checkThreeApart_X7_checkApart : GoodIn wsX7_checkThreeApart wsX7_checkApart := goodIn_ca (goodIn_r _ [4, 5, 6] (by decide +kernel) (by decide +kernel)) (goodIn_sub (fun _ h => List.mem_cons_of_mem _ (List.mem_append_right _ h)) (by decide +kernel))
set_option maxRecDepth 20000 in
theorem gX7_checkThreeApart_X7_checkApart : GoodIn wsX7_checkThreeApart (va_wsS RX7 114 yX7_checkApart wsX7_checkApart) := goodIn_app (goodIn_of _ (by decide +kernel)) ggX7_checkThreeApart_X7_checkApart
set_option maxRecDepth 20000 in
theorem ggX7_parityOf_J6_bitCount_0f7a4 : GoodIn wsX7_parityOf wsJ6_bitCount_0f7a4 := goodIn_r _ [4, 5, 6, 7] (by decide +kernel) (by decide +kernel)
set_option maxRecDepth 20000 in
theorem gX7_parityOf_J6_bitCount_0f7a4 : GoodIn wsX7_parityOf (va_wsS RX7 323 yJ6_bitCount_0f7a4 wsJ6_bitCount_0f7a4) := goodIn_app (goodIn_of _ (by decide +kernel)) ggX7_parityOf_J6_bitCount_0f7a4
set_option maxRecDepth 20000 in
theorem ggX7_serialWord_X7_parityOf : GoodIn wsX7_serialWord wsX7_parityOf := goodIn_r _ [4, 5, 6, 7, 8, 9, 10, 11] (by decide +kernel) (by decide +kernel)
set_option maxRecDepth 20000 in
theorem gX7_serialWord_X7_parityOf : GoodIn wsX7_serialWord (va_wsS RX7 328 yX7_parityOf wsX7_parityOf) := goodIn_app (goodIn_of _ (by decide +kernel)) ggX7_serialWord_X7_parityOf
set_option maxRecDepth 20000 in
theorem ggX7_serialWord_X7_serialBits : GoodIn wsX7_serialWord wsX7_serialBits := goodIn_r _ [14] (by decide +kernel) (by decide +kernel)
set_option maxRecDepth 20000 in
theorem gX7_serialWord_X7_serialBits : GoodIn wsX7_serialWord (va_wsS RX7 94 yX7_serialBits wsX7_serialBits) := goodIn_app (goodIn_of _ (by decide +kernel)) ggX7_serialWord_X7_serialBits
set_option maxRecDepth 20000 in
theorem ggX7_planTwoWires_X6_beginSending : GoodIn wsX7_planTwoWires wsX6_beginSending := goodIn_r _ [5, 6, 7, 26, 27, 28, 29, 30, 31] (by decide +kernel) (by decide +kernel)
set_option maxRecDepth 20000 in
theorem gX7_planTwoWires_X6_beginSending : GoodIn wsX7_planTwoWires (wsV RX7 62 RX6 yX6_beginSending wsX6_beginSending) := goodIn_app (goodIn_of _ (by decide +kernel)) ggX7_planTwoWires_X6_beginSending
set_option maxRecDepth 20000 in
theorem ggX7_planTwoWires_X6_send : GoodIn wsX7_planTwoWires wsX6_send := goodIn_r _ [11, 6, 12, 13, 14, 4, 15, 7, 16, 26, 27, 28, 29, 30, 31] (by decide +kernel) (by decide +kernel)
set_option maxRecDepth 20000 in
theorem gX7_planTwoWires_X6_send : GoodIn wsX7_planTwoWires (wsV RX7 110 RX6 yX6_send wsX6_send) := goodIn_app (goodIn_of _ (by decide +kernel)) ggX7_planTwoWires_X6_send
set_option maxRecDepth 20000 in
theorem ggX7_planTwoWires_X7_tickBehind : GoodIn wsX7_planTwoWires wsX7_tickBehind := goodIn_r _ [21, 22, 32, 33, 34, 35, 36, 37, 38, 39] (by decide +kernel) (by decide +kernel)
set_option maxRecDepth 20000 in
theorem gX7_planTwoWires_X7_tickBehind : GoodIn wsX7_planTwoWires (wsV RX7 106 RX7 yX7_tickBehind wsX7_tickBehind) := goodIn_app (goodIn_of _ (by decide +kernel)) ggX7_planTwoWires_X7_tickBehind
set_option maxRecDepth 20000 in
theorem ggX7_planTwoWires_X7_hasBit : GoodIn wsX7_planTwoWires wsX7_hasBit := goodIn_r _ [25] (by decide +kernel) (by decide +kernel)
set_option maxRecDepth 20000 in
theorem gX7_planTwoWires_X7_hasBit : GoodIn wsX7_planTwoWires (va_wsS RX7 102 yX7_hasBit wsX7_hasBit) := goodIn_app (goodIn_of _ (by decide +kernel)) ggX7_planTwoWires_X7_hasBit
set_option maxRecDepth 20000 in
theorem ggX7_planSelect_X6_beginSending : GoodIn wsX7_planSelect wsX6_beginSending := goodIn_r _ [5, 6, 7, 17, 18, 19, 20, 21, 22] (by decide +kernel) (by decide +kernel)
set_option maxRecDepth 20000 in
theorem gX7_planSelect_X6_beginSending : GoodIn wsX7_planSelect (wsV RX7 62 RX6 yX6_beginSending wsX6_beginSending) := goodIn_app (goodIn_of _ (by decide +kernel)) ggX7_planSelect_X6_beginSending
set_option maxRecDepth 20000 in
theorem ggX7_planSelect_X6_send : GoodIn wsX7_planSelect wsX6_send := goodIn_r _ [11, 6, 12, 13, 14, 4, 15, 7, 16, 17, 18, 19, 20, 21, 22] (by decide +kernel) (by decide +kernel)
set_option maxRecDepth 20000 in
theorem gX7_planSelect_X6_send : GoodIn wsX7_planSelect (wsV RX7 110 RX6 yX6_send wsX6_send) := goodIn_app (goodIn_of _ (by decide +kernel)) ggX7_planSelect_X6_send
set_option maxRecDepth 20000 in
theorem ggX7_planFourClock_X6_beginSending : GoodIn wsX7_planFourClock wsX6_beginSending := goodIn_r _ [5, 6, 7, 23, 24, 25, 26, 27, 28] (by decide +kernel) (by decide +kernel)
set_option maxRecDepth 20000 in
theorem gX7_planFourClock_X6_beginSending : GoodIn wsX7_planFourClock (wsV RX7 62 RX6 yX6_beginSending wsX6_beginSending) := goodIn_app (goodIn_of _ (by decide +kernel)) ggX7_planFourClock_X6_beginSending
set_option maxRecDepth 20000 in
theorem ggX7_planFourClock_X7_tickBehind : GoodIn wsX7_planFourClock wsX7_tickBehind := goodIn_r _ [12, 13, 29, 30, 31, 32, 33, 34, 35, 36] (by decide +kernel) (by decide +kernel)
set_option maxRecDepth 20000 in
theorem gX7_planFourClock_X7_tickBehind : GoodIn wsX7_planFourClock (wsV RX7 106 RX7 yX7_tickBehind wsX7_tickBehind) := goodIn_app (goodIn_of _ (by decide +kernel)) ggX7_planFourClock_X7_tickBehind
set_option maxRecDepth 20000 in
theorem ggX7_planFourClock_X6_send : GoodIn wsX7_planFourClock wsX6_send := goodIn_r _ [17, 6, 18, 19, 20, 4, 21, 7, 22, 23, 24, 25, 26, 27, 28] (by decide +kernel) (by decide +kernel)
set_option maxRecDepth 20000 in
theorem gX7_planFourClock_X6_send : GoodIn wsX7_planFourClock (wsV RX7 110 RX6 yX6_send wsX6_send) := goodIn_app (goodIn_of _ (by decide +kernel)) ggX7_planFourClock_X6_send
set_option maxRecDepth 20000 in
theorem ggX7_planFourData_X6_beginSending : GoodIn wsX7_planFourData wsX6_beginSending := goodIn_r _ [5, 6, 7, 26, 27, 28, 29, 30, 31] (by decide +kernel) (by decide +kernel)
set_option maxRecDepth 20000 in
theorem gX7_planFourData_X6_beginSending : GoodIn wsX7_planFourData (wsV RX7 62 RX6 yX6_beginSending wsX6_beginSending) := goodIn_app (goodIn_of _ (by decide +kernel)) ggX7_planFourData_X6_beginSending
set_option maxRecDepth 20000 in
theorem ggX7_planFourData_X7_hasBit : GoodIn wsX7_planFourData wsX7_hasBit := goodIn_r _ [11] (by decide +kernel) (by decide +kernel)
set_option maxRecDepth 20000 in
theorem gX7_planFourData_X7_hasBit : GoodIn wsX7_planFourData (va_wsS RX7 102 yX7_hasBit wsX7_hasBit) := goodIn_app (goodIn_of _ (by decide +kernel)) ggX7_planFourData_X7_hasBit
set_option maxRecDepth 20000 in
theorem ggX7_planFourData_X7_tickBehind : GoodIn wsX7_planFourData wsX7_tickBehind := goodIn_r _ [15, 16, 32, 33, 34, 35, 36, 37, 38, 39] (by decide +kernel) (by decide +kernel)
set_option maxRecDepth 20000 in
theorem gX7_planFourData_X7_tickBehind : GoodIn wsX7_planFourData (wsV RX7 106 RX7 yX7_tickBehind wsX7_tickBehind) := goodIn_app (goodIn_of _ (by decide +kernel)) ggX7_planFourData_X7_tickBehind
set_option maxRecDepth 20000 in
theorem ggX7_planFourData_X6_send : GoodIn wsX7_planFourData wsX6_send := goodIn_r _ [20, 6, 21, 22, 23, 4, 24, 7, 25, 26, 27, 28, 29, 30, 31] (by decide +kernel) (by decide +kernel)
set_option maxRecDepth 20000 in
theorem gX7_planFourData_X6_send : GoodIn wsX7_planFourData (wsV RX7 110 RX6 yX6_send wsX6_send) := goodIn_app (goodIn_of _ (by decide +kernel)) ggX7_planFourData_X6_send
set_option maxRecDepth 20000 in
theorem ggX7_shortestRunOf_X7_checkCapture : GoodIn wsX7_shortestRunOf wsX7_checkCapture := goodIn_ca (goodIn_r _ [5, 6, 7] (by decide +kernel) (by decide +kernel)) (goodIn_sub (fun _ h => List.mem_cons_of_mem _ (List.mem_append_left _ (List.mem_append_right _ h))) (by decide +kernel))
set_option maxRecDepth 20000 in
theorem gX7_shortestRunOf_X7_checkCapture : GoodIn wsX7_shortestRunOf (va_wsS RX7 141 yX7_checkCapture wsX7_checkCapture) := goodIn_app (goodIn_of _ (by decide +kernel)) ggX7_shortestRunOf_X7_checkCapture
set_option maxRecDepth 20000 in
theorem ggX7_shortestRunOf_X7_checkWire : GoodIn wsX7_shortestRunOf wsX7_checkWire := goodIn_ca (goodIn_r _ [10, 6, 7] (by decide +kernel) (by decide +kernel)) (goodIn_sub (fun _ h => List.mem_cons_of_mem _ (List.mem_append_left _ (List.mem_append_right _ h))) (by decide +kernel))
set_option maxRecDepth 20000 in
theorem gX7_shortestRunOf_X7_checkWire : GoodIn wsX7_shortestRunOf (va_wsS RX7 51 yX7_checkWire wsX7_checkWire) := goodIn_app (goodIn_of _ (by decide +kernel)) ggX7_shortestRunOf_X7_checkWire
set_option maxRecDepth 20000 in
theorem ggX7_shortestRunOf_X0_shortestInner : GoodIn wsX7_shortestRunOf wsX0_shortestInner := goodIn_r _ [15, 16, 17, 18, 19, 14, 20, 21, 22, 23, 24, 25, 26, 27, 28, 29, 43, 44] (by decide +kernel) (by decide +kernel)
set_option maxRecDepth 20000 in
theorem gX7_shortestRunOf_X0_shortestInner : GoodIn wsX7_shortestRunOf (wsV RX7 331 RX0 yX0_shortestInner wsX0_shortestInner) := goodIn_app (goodIn_of _ (by decide +kernel)) ggX7_shortestRunOf_X0_shortestInner
set_option maxRecDepth 20000 in
theorem ggX7_shortestRunOf_X7_checkThere : GoodIn wsX7_shortestRunOf wsX7_checkThere := goodIn_ca (goodIn_r _ [32, 33, 34] (by decide +kernel) (by decide +kernel)) (goodIn_sub (fun _ h => List.mem_cons_of_mem _ (List.mem_append_right _ h)) (by decide +kernel))
set_option maxRecDepth 20000 in
theorem gX7_shortestRunOf_X7_checkThere : GoodIn wsX7_shortestRunOf (va_wsS RX7 159 yX7_checkThere wsX7_checkThere) := goodIn_app (goodIn_of _ (by decide +kernel)) ggX7_shortestRunOf_X7_checkThere
set_option maxRecDepth 20000 in
theorem ggX7_tellSerial_X7_serialBits : GoodIn wsX7_tellSerial wsX7_serialBits := goodIn_r _ [6] (by decide +kernel) (by decide +kernel)
set_option maxRecDepth 20000 in
theorem gX7_tellSerial_X7_serialBits : GoodIn wsX7_tellSerial (va_wsS RX7 94 yX7_serialBits wsX7_serialBits) := goodIn_app (goodIn_of _ (by decide +kernel)) ggX7_tellSerial_X7_serialBits
set_option maxRecDepth 20000 in
theorem ggX7_tellSerial_X7_middleOf : GoodIn wsX7_tellSerial wsX7_middleOf := goodIn_r _ [9] (by decide +kernel) (by decide +kernel)
set_option maxRecDepth 20000 in
theorem gX7_tellSerial_X7_middleOf : GoodIn wsX7_tellSerial (va_wsS RX7 334 yX7_middleOf wsX7_middleOf) := goodIn_app (goodIn_of _ (by decide +kernel)) ggX7_tellSerial_X7_middleOf
set_option maxRecDepth 20000 in
theorem ggX7_tellSerial_X0_isHighAt : GoodIn wsX7_tellSerial wsX0_isHighAt := goodIn_r _ [14, 15, 16, 17, 18, 13, 19, 20, 42, 43] (by decide +kernel) (by decide +kernel)
set_option maxRecDepth 20000 in
theorem gX7_tellSerial_X0_isHighAt : GoodIn wsX7_tellSerial (wsV RX7 216 RX0 yX0_isHighAt wsX0_isHighAt) := goodIn_app (goodIn_of _ (by decide +kernel)) ggX7_tellSerial_X0_isHighAt
set_option maxRecDepth 20000 in
theorem ggX7_tellSerial_X7_parityOf : GoodIn wsX7_tellSerial wsX7_parityOf := goodIn_r _ [23, 24, 25, 26, 27, 28, 29, 30] (by decide +kernel) (by decide +kernel)
set_option maxRecDepth 20000 in
theorem gX7_tellSerial_X7_parityOf : GoodIn wsX7_tellSerial (va_wsS RX7 328 yX7_parityOf wsX7_parityOf) := goodIn_app (goodIn_of _ (by decide +kernel)) ggX7_tellSerial_X7_parityOf
set_option maxRecDepth 20000 in
theorem ggX7_tellSerial_X3_tell : GoodIn wsX7_tellSerial wsX3_tell := goodIn_r _ [35, 36, 37, 38, 39, 40, 41, 52, 53, 54, 55, 56, 57] (by decide +kernel) (by decide +kernel)
set_option maxRecDepth 20000 in
theorem gX7_tellSerial_X3_tell : GoodIn wsX7_tellSerial (wsV RX7 338 RX3 yX3_tell wsX3_tell) := goodIn_app (goodIn_of _ (by decide +kernel)) ggX7_tellSerial_X3_tell
set_option maxRecDepth 20000 in
theorem ggX7_alikeCount_X0_has : GoodIn wsX7_alikeCount wsX0_has := goodIn_r _ [7, 8, 9, 23, 24] (by decide +kernel) (by decide +kernel)
set_option maxRecDepth 20000 in
theorem gX7_alikeCount_X0_has : GoodIn wsX7_alikeCount (wsV RX7 156 RX0 yX0_has wsX0_has) := goodIn_app (goodIn_of _ (by decide +kernel)) ggX7_alikeCount_X0_has
set_option maxRecDepth 20000 in
theorem ggX7_alikeCount_X0_levelsAt : GoodIn wsX7_alikeCount wsX0_levelsAt := goodIn_r _ [13, 9, 14, 4, 5, 6, 7, 8, 23, 24] (by decide +kernel) (by decide +kernel)
set_option maxRecDepth 20000 in
theorem gX7_alikeCount_X0_levelsAt : GoodIn wsX7_alikeCount (wsV RX7 162 RX0 yX0_levelsAt wsX0_levelsAt) := goodIn_app (goodIn_of _ (by decide +kernel)) ggX7_alikeCount_X0_levelsAt
set_option maxRecDepth 20000 in
theorem ggX7_firstUnlike_X0_has : GoodIn wsX7_firstUnlike wsX0_has := goodIn_r _ [7, 8, 9, 23, 24] (by decide +kernel) (by decide +kernel)
set_option maxRecDepth 20000 in
theorem gX7_firstUnlike_X0_has : GoodIn wsX7_firstUnlike (wsV RX7 156 RX0 yX0_has wsX0_has) := goodIn_app (goodIn_of _ (by decide +kernel)) ggX7_firstUnlike_X0_has
set_option maxRecDepth 20000 in
theorem ggX7_firstUnlike_X0_levelsAt : GoodIn wsX7_firstUnlike wsX0_levelsAt := goodIn_r _ [13, 9, 14, 4, 5, 6, 7, 8, 23, 24] (by decide +kernel) (by decide +kernel)
set_option maxRecDepth 20000 in
theorem gX7_firstUnlike_X0_levelsAt : GoodIn wsX7_firstUnlike (wsV RX7 162 RX0 yX0_levelsAt wsX0_levelsAt) := goodIn_app (goodIn_of _ (by decide +kernel)) ggX7_firstUnlike_X0_levelsAt
set_option maxRecDepth 20000 in
theorem ggX9_init_X11_copies : GoodIn wsX9_init wsX11_copies := goodIn_r _ [13, 14, 15, 16, 17, 18, 19, 20, 26, 27, 28, 29, 30, 31, 32, 33, 34, 35] (by decide +kernel) (by decide +kernel)
set_option maxRecDepth 20000 in
theorem gX9_init_X11_copies_n15 : GoodIn wsX9_init (wsX11_copies) := ggX9_init_X11_copies
set_option maxRecDepth 20000 in
theorem ggX9_tells_X11_drifted : GoodIn wsX9_tells wsX11_drifted := goodIn_r _ [9, 10, 18, 19, 20, 21, 22, 23, 24, 25, 26, 27] (by decide +kernel) (by decide +kernel)
set_option maxRecDepth 20000 in
theorem gX9_tells_X11_drifted_n35 : GoodIn wsX9_tells (wsX11_drifted) := ggX9_tells_X11_drifted
set_option maxRecDepth 20000 in
theorem ggX9_tells_X11_turns : GoodIn wsX9_tells wsX11_turns := goodIn_r _ [12] (by decide +kernel) (by decide +kernel)
set_option maxRecDepth 20000 in
theorem gX9_tells_X11_turns_n39 : GoodIn wsX9_tells (wsX11_turns) := ggX9_tells_X11_turns
set_option maxRecDepth 20000 in
theorem ggX9_ends_X11_areFew : GoodIn wsX9_ends wsX11_areFew := goodIn_r _ [7] (by decide +kernel) (by decide +kernel)
set_option maxRecDepth 20000 in
theorem gX9_ends_X11_areFew_n43 : GoodIn wsX9_ends (wsX11_areFew) := ggX9_ends_X11_areFew
set_option maxRecDepth 20000 in
theorem ggX9_ends_X11_drifted : GoodIn wsX9_ends wsX11_drifted := goodIn_r _ [10, 11, 17, 18, 19, 20, 21, 22, 23, 24, 25, 26] (by decide +kernel) (by decide +kernel)
set_option maxRecDepth 20000 in
theorem gX9_ends_X11_drifted_n35 : GoodIn wsX9_ends (wsX11_drifted) := ggX9_ends_X11_drifted
set_option maxRecDepth 20000 in
theorem ggX11_init_Jx4a65c_init_da8c8 : GoodIn wsX11_init wsJx4a65c_init_da8c8 := goodIn_r _ [22, 23, 24, 25, 26, 27, 28, 29, 30, 31, 32, 33, 34, 2, 3, 45, 46, 47] (by decide +kernel) (by decide +kernel)
set_option maxRecDepth 20000 in
theorem gX11_init_Jx4a65c_init_da8c8 : GoodIn wsX11_init (wsJx4a65c_init_da8c8) := ggX11_init_Jx4a65c_init_da8c8
set_option maxRecDepth 20000 in
theorem ggX11_isWire_X11_in : GoodIn wsX11_isWire wsX11_in := goodIn_r _ [5] (by decide +kernel) (by decide +kernel)
set_option maxRecDepth 20000 in
theorem gX11_isWire_X11_in : GoodIn wsX11_isWire (va_wsS RX11 49 yX11_in wsX11_in) := goodIn_app (goodIn_of _ (by decide +kernel)) ggX11_isWire_X11_in
set_option maxRecDepth 20000 in
theorem ggX11_noWire_X11_isWire : GoodIn wsX11_noWire wsX11_isWire := goodIn_r _ [5, 6, 7, 8, 4, 9] (by decide +kernel) (by decide +kernel)
set_option maxRecDepth 20000 in
theorem gX11_noWire_X11_isWire : GoodIn wsX11_noWire (va_wsS RX11 53 yX11_isWire wsX11_isWire) := goodIn_app (goodIn_of _ (by decide +kernel)) ggX11_noWire_X11_isWire
set_option maxRecDepth 20000 in
theorem ggX11_idle_X11_noWire : GoodIn wsX11_idle wsX11_noWire := goodIn_r _ [6, 7, 8, 9, 5, 10, 11, 12, 13, 14, 15, 16, 17, 18, 19, 20, 21, 22, 23, 24] (by decide +kernel) (by decide +kernel)
set_option maxRecDepth 20000 in
theorem gX11_idle_X11_noWire : GoodIn wsX11_idle (wsV RX11 57 RX11 yX11_noWire wsX11_noWire) := goodIn_app (goodIn_of _ (by decide +kernel)) ggX11_idle_X11_noWire
set_option maxRecDepth 20000 in
theorem ggX11_flip_X11_noWire : GoodIn wsX11_flip wsX11_noWire := goodIn_r _ [8, 3, 9, 10, 7, 11, 12, 13, 14, 15, 20, 21, 22, 23, 24, 25, 26, 27, 28, 29] (by decide +kernel) (by decide +kernel)
set_option maxRecDepth 20000 in
theorem gX11_flip_X11_noWire : GoodIn wsX11_flip (wsV RX11 57 RX11 yX11_noWire wsX11_noWire) := goodIn_app (goodIn_of _ (by decide +kernel)) ggX11_flip_X11_noWire
set_option maxRecDepth 20000 in
theorem ggX11_flip_X11_in : GoodIn wsX11_flip wsX11_in := goodIn_r _ [15] (by decide +kernel) (by decide +kernel)
set_option maxRecDepth 20000 in
theorem gX11_flip_X11_in : GoodIn wsX11_flip (va_wsS RX11 49 yX11_in wsX11_in) := goodIn_app (goodIn_of _ (by decide +kernel)) ggX11_flip_X11_in
set_option maxRecDepth 20000 in
theorem ggX11_flip_X11_many : GoodIn wsX11_flip wsX11_many := goodIn_r _ [19, 2, 20, 21, 22, 23, 24, 25, 26, 27, 28, 29] (by decide +kernel) (by decide +kernel)
set_option maxRecDepth 20000 in
theorem gX11_flip_X11_many : GoodIn wsX11_flip (wsV RX11 62 RX11 yX11_many wsX11_many) := goodIn_app (goodIn_of _ (by decide +kernel)) ggX11_flip_X11_many
set_option maxRecDepth 20000 in
theorem ggX11_level_X11_noWire : GoodIn wsX11_level wsX11_noWire := goodIn_r _ [7, 2, 8, 9, 6, 10, 11, 12, 13, 14, 21, 22, 23, 24, 25, 26, 27, 28, 29, 30] (by decide +kernel) (by decide +kernel)
set_option maxRecDepth 20000 in
theorem gX11_level_X11_noWire : GoodIn wsX11_level (wsV RX11 57 RX11 yX11_noWire wsX11_noWire) := goodIn_app (goodIn_of _ (by decide +kernel)) ggX11_level_X11_noWire
set_option maxRecDepth 20000 in
theorem ggX11_level_X11_in : GoodIn wsX11_level wsX11_in := goodIn_r _ [14] (by decide +kernel) (by decide +kernel)
set_option maxRecDepth 20000 in
theorem gX11_level_X11_in : GoodIn wsX11_level (va_wsS RX11 49 yX11_in wsX11_in) := goodIn_app (goodIn_of _ (by decide +kernel)) ggX11_level_X11_in
set_option maxRecDepth 20000 in
theorem ggX11_level_X11_levelOf : GoodIn wsX11_level wsX11_levelOf := goodIn_r _ [18, 19, 20, 21, 22, 23, 24, 25, 26, 27, 28, 29, 30] (by decide +kernel) (by decide +kernel)
set_option maxRecDepth 20000 in
theorem gX11_level_X11_levelOf : GoodIn wsX11_level (wsV RX11 66 RX11 yX11_levelOf wsX11_levelOf) := goodIn_app (goodIn_of _ (by decide +kernel)) ggX11_level_X11_levelOf
set_option maxRecDepth 20000 in
theorem ggX11_glitch_X11_noWire : GoodIn wsX11_glitch wsX11_noWire := goodIn_r _ [9, 3, 10, 11, 8, 12, 13, 14, 15, 16, 37, 38, 39, 40, 41, 42, 43, 44, 45, 46] (by decide +kernel) (by decide +kernel)
set_option maxRecDepth 20000 in
theorem gX11_glitch_X11_noWire : GoodIn wsX11_glitch (wsV RX11 57 RX11 yX11_noWire wsX11_noWire) := goodIn_app (goodIn_of _ (by decide +kernel)) ggX11_glitch_X11_noWire
set_option maxRecDepth 20000 in
theorem ggX11_glitch_X11_in : GoodIn wsX11_glitch wsX11_in := goodIn_r _ [16] (by decide +kernel) (by decide +kernel)
set_option maxRecDepth 20000 in
theorem gX11_glitch_X11_in : GoodIn wsX11_glitch (va_wsS RX11 49 yX11_in wsX11_in) := goodIn_app (goodIn_of _ (by decide +kernel)) ggX11_glitch_X11_in
set_option maxRecDepth 20000 in
theorem ggX11_glitch_X11_copies : GoodIn wsX11_glitch wsX11_copies := goodIn_r _ [20, 21, 4, 22, 23, 24, 25, 26, 37, 38, 39, 40, 41, 42, 43, 44, 45, 46] (by decide +kernel) (by decide +kernel)
set_option maxRecDepth 20000 in
theorem gX11_glitch_X11_copies : GoodIn wsX11_glitch (wsV RX11 77 RX11 yX11_copies wsX11_copies) := goodIn_app (goodIn_of _ (by decide +kernel)) ggX11_glitch_X11_copies
set_option maxRecDepth 20000 in
theorem ggX11_glitch_X11_turns : GoodIn wsX11_glitch wsX11_turns := goodIn_r _ [29] (by decide +kernel) (by decide +kernel)
set_option maxRecDepth 20000 in
theorem gX11_glitch_X11_turns : GoodIn wsX11_glitch (va_wsS RX11 81 yX11_turns wsX11_turns) := goodIn_app (goodIn_of _ (by decide +kernel)) ggX11_glitch_X11_turns
set_option maxRecDepth 20000 in
theorem ggX11_glitch_X11_areFew : GoodIn wsX11_glitch wsX11_areFew := goodIn_r _ [32] (by decide +kernel) (by decide +kernel)
set_option maxRecDepth 20000 in
theorem gX11_glitch_X11_areFew : GoodIn wsX11_glitch (va_wsS RX11 85 yX11_areFew wsX11_areFew) := goodIn_app (goodIn_of _ (by decide +kernel)) ggX11_glitch_X11_areFew
set_option maxRecDepth 20000 in
theorem ggX11_glitch_X11_many : GoodIn wsX11_glitch wsX11_many := goodIn_r _ [36, 4, 37, 38, 39, 40, 41, 42, 43, 44, 45, 46] (by decide +kernel) (by decide +kernel)
set_option maxRecDepth 20000 in
theorem gX11_glitch_X11_many : GoodIn wsX11_glitch (wsV RX11 62 RX11 yX11_many wsX11_many) := goodIn_app (goodIn_of _ (by decide +kernel)) ggX11_glitch_X11_many
set_option maxRecDepth 20000 in
theorem ggX11_drift_X11_in : GoodIn wsX11_drift wsX11_in := goodIn_r _ [8] (by decide +kernel) (by decide +kernel)
set_option maxRecDepth 20000 in
theorem gX11_drift_X11_in : GoodIn wsX11_drift (va_wsS RX11 49 yX11_in wsX11_in) := goodIn_app (goodIn_of _ (by decide +kernel)) ggX11_drift_X11_in
set_option maxRecDepth 20000 in
theorem ggX11_serial_X11_noWire : GoodIn wsX11_serial wsX11_noWire := goodIn_r _ [13, 5, 14, 15, 12, 16, 17, 18, 19, 20, 69, 70, 71, 72, 73, 74, 75, 76, 77, 78] (by decide +kernel) (by decide +kernel)
set_option maxRecDepth 20000 in
theorem gX11_serial_X11_noWire : GoodIn wsX11_serial (wsV RX11 57 RX11 yX11_noWire wsX11_noWire) := goodIn_app (goodIn_of _ (by decide +kernel)) ggX11_serial_X11_noWire
set_option maxRecDepth 20000 in
theorem ggX11_serial_X11_in : GoodIn wsX11_serial wsX11_in := goodIn_r _ [20] (by decide +kernel) (by decide +kernel)
set_option maxRecDepth 20000 in
theorem gX11_serial_X11_in : GoodIn wsX11_serial (va_wsS RX11 49 yX11_in wsX11_in) := goodIn_app (goodIn_of _ (by decide +kernel)) ggX11_serial_X11_in
set_option maxRecDepth 20000 in
theorem ggX11_serial_X11_isParity : GoodIn wsX11_serial wsX11_isParity := goodIn_r _ [23] (by decide +kernel) (by decide +kernel)
set_option maxRecDepth 20000 in
theorem gX11_serial_X11_isParity : GoodIn wsX11_serial (va_wsS RX11 100 yX11_isParity wsX11_isParity) := goodIn_app (goodIn_of _ (by decide +kernel)) ggX11_serial_X11_isParity
set_option maxRecDepth 20000 in
theorem ggX11_serial_X9_init : GoodIn wsX11_serial wsX9_init := goodIn_r _ [26, 27, 28, 29, 30, 31, 32, 33, 34, 35, 36, 12, 37, 38, 39, 40, 41, 42, 43, 44, 45, 79, 80, 81, 82, 83, 69, 70, 71, 72, 73, 74, 75, 76, 77, 78] (by decide +kernel) (by decide +kernel)
set_option maxRecDepth 20000 in
theorem gX11_serial_X9_init : GoodIn wsX11_serial (wsX9_init) := ggX11_serial_X9_init
set_option maxRecDepth 20000 in
theorem ggX11_serial_X9_tells : GoodIn wsX11_serial wsX9_tells := goodIn_r _ [49, 33, 31, 27, 35, 34, 50, 12, 51, 52, 53, 54, 55, 79, 80, 81, 82, 83, 69, 70, 71, 72, 73, 74, 75, 76, 77, 78] (by decide +kernel) (by decide +kernel)
set_option maxRecDepth 20000 in
theorem gX11_serial_X9_tells : GoodIn wsX11_serial (wsV RX11 112 RX9 yX9_tells wsX9_tells) := goodIn_app (goodIn_of _ (by decide +kernel)) ggX11_serial_X9_tells
set_option maxRecDepth 20000 in
theorem ggX11_serial_J6_bitCount_0f7a4 : GoodIn wsX11_serial wsJ6_bitCount_0f7a4 := goodIn_r _ [59, 60, 61, 62] (by decide +kernel) (by decide +kernel)
set_option maxRecDepth 20000 in
theorem gX11_serial_J6_bitCount_0f7a4 : GoodIn wsX11_serial (va_wsS RX11 116 yJ6_bitCount_0f7a4 wsJ6_bitCount_0f7a4) := goodIn_app (goodIn_of _ (by decide +kernel)) ggX11_serial_J6_bitCount_0f7a4
set_option maxRecDepth 20000 in
theorem ggX11_serial_X9_ends : GoodIn wsX11_serial wsX9_ends := goodIn_r _ [66, 27, 34, 31, 35, 67, 12, 68, 50, 51, 52, 53, 79, 80, 81, 82, 83, 69, 70, 71, 72, 73, 74, 75, 76, 77, 78] (by decide +kernel) (by decide +kernel)
set_option maxRecDepth 20000 in
theorem gX11_serial_X9_ends : GoodIn wsX11_serial (wsV RX11 121 RX9 yX9_ends wsX9_ends) := goodIn_app (goodIn_of _ (by decide +kernel)) ggX11_serial_X9_ends
set_option maxRecDepth 20000 in
theorem ggX11_twoWires_X11_isWire : GoodIn wsX11_twoWires wsX11_isWire := goodIn_r _ [16, 17, 18, 19, 15, 20] (by decide +kernel) (by decide +kernel)
set_option maxRecDepth 20000 in
theorem gX11_twoWires_X11_isWire : GoodIn wsX11_twoWires (va_wsS RX11 53 yX11_isWire wsX11_isWire) := goodIn_app (goodIn_of _ (by decide +kernel)) ggX11_twoWires_X11_isWire
set_option maxRecDepth 20000 in
theorem ggX11_twoWires_X11_in : GoodIn wsX11_twoWires wsX11_in := goodIn_r _ [20] (by decide +kernel) (by decide +kernel)
set_option maxRecDepth 20000 in
theorem gX11_twoWires_X11_in : GoodIn wsX11_twoWires (va_wsS RX11 49 yX11_in wsX11_in) := goodIn_app (goodIn_of _ (by decide +kernel)) ggX11_twoWires_X11_in
set_option maxRecDepth 20000 in
theorem ggX11_twoWires_X9_init : GoodIn wsX11_twoWires wsX9_init := goodIn_r _ [23, 24, 25, 26, 27, 28, 29, 30, 31, 32, 33, 15, 34, 35, 36, 37, 38, 39, 40, 41, 42, 69, 70, 71, 72, 73, 59, 60, 61, 62, 63, 64, 65, 66, 67, 68] (by decide +kernel) (by decide +kernel)
set_option maxRecDepth 20000 in
theorem gX11_twoWires_X9_init : GoodIn wsX11_twoWires (wsX9_init) := ggX11_twoWires_X9_init
set_option maxRecDepth 20000 in
theorem ggX11_twoWires_X9_tells : GoodIn wsX11_twoWires wsX9_tells := goodIn_r _ [46, 30, 28, 24, 32, 31, 47, 15, 48, 49, 50, 51, 52, 69, 70, 71, 72, 73, 59, 60, 61, 62, 63, 64, 65, 66, 67, 68] (by decide +kernel) (by decide +kernel)
set_option maxRecDepth 20000 in
theorem gX11_twoWires_X9_tells : GoodIn wsX11_twoWires (wsV RX11 112 RX9 yX9_tells wsX9_tells) := goodIn_app (goodIn_of _ (by decide +kernel)) ggX11_twoWires_X9_tells
set_option maxRecDepth 20000 in
theorem ggX11_twoWires_X9_ends : GoodIn wsX11_twoWires wsX9_ends := goodIn_r _ [56, 24, 31, 28, 32, 57, 15, 58, 47, 48, 49, 50, 69, 70, 71, 72, 73, 59, 60, 61, 62, 63, 64, 65, 66, 67, 68] (by decide +kernel) (by decide +kernel)
set_option maxRecDepth 20000 in
theorem gX11_twoWires_X9_ends : GoodIn wsX11_twoWires (wsV RX11 121 RX9 yX9_ends wsX9_ends) := goodIn_app (goodIn_of _ (by decide +kernel)) ggX11_twoWires_X9_ends
set_option maxRecDepth 20000 in
theorem ggX11_fourWires_X11_isWire : GoodIn wsX11_fourWires wsX11_isWire := goodIn_r _ [12, 5, 13, 14, 11, 15] (by decide +kernel) (by decide +kernel)
set_option maxRecDepth 20000 in
theorem gX11_fourWires_X11_isWire : GoodIn wsX11_fourWires (va_wsS RX11 53 yX11_isWire wsX11_isWire) := goodIn_app (goodIn_of _ (by decide +kernel)) ggX11_fourWires_X11_isWire
set_option maxRecDepth 20000 in
theorem ggX11_fourWires_X11_in : GoodIn wsX11_fourWires wsX11_in := goodIn_r _ [15] (by decide +kernel) (by decide +kernel)
set_option maxRecDepth 20000 in
theorem gX11_fourWires_X11_in : GoodIn wsX11_fourWires (va_wsS RX11 49 yX11_in wsX11_in) := goodIn_app (goodIn_of _ (by decide +kernel)) ggX11_fourWires_X11_in
set_option maxRecDepth 20000 in
theorem ggX11_fourWires_X9_init : GoodIn wsX11_fourWires wsX9_init := goodIn_r _ [18, 19, 20, 21, 22, 23, 24, 25, 26, 27, 28, 11, 29, 30, 31, 32, 33, 34, 35, 36, 37, 64, 65, 66, 67, 68, 54, 55, 56, 57, 58, 59, 60, 61, 62, 63] (by decide +kernel) (by decide +kernel)
set_option maxRecDepth 20000 in
theorem gX11_fourWires_X9_init : GoodIn wsX11_fourWires (wsX9_init) := ggX11_fourWires_X9_init
set_option maxRecDepth 20000 in
theorem ggX11_fourWires_X9_tells : GoodIn wsX11_fourWires wsX9_tells := goodIn_r _ [41, 25, 23, 19, 27, 26, 42, 11, 43, 44, 45, 46, 47, 64, 65, 66, 67, 68, 54, 55, 56, 57, 58, 59, 60, 61, 62, 63] (by decide +kernel) (by decide +kernel)
set_option maxRecDepth 20000 in
theorem gX11_fourWires_X9_tells : GoodIn wsX11_fourWires (wsV RX11 112 RX9 yX9_tells wsX9_tells) := goodIn_app (goodIn_of _ (by decide +kernel)) ggX11_fourWires_X9_tells
set_option maxRecDepth 20000 in
theorem ggX11_fourWires_X9_ends : GoodIn wsX11_fourWires wsX9_ends := goodIn_r _ [51, 19, 26, 23, 27, 52, 11, 53, 42, 43, 44, 45, 64, 65, 66, 67, 68, 54, 55, 56, 57, 58, 59, 60, 61, 62, 63] (by decide +kernel) (by decide +kernel)
set_option maxRecDepth 20000 in
theorem gX11_fourWires_X9_ends : GoodIn wsX11_fourWires (wsV RX11 121 RX9 yX9_ends wsX9_ends) := goodIn_app (goodIn_of _ (by decide +kernel)) ggX11_fourWires_X9_ends
set_option maxRecDepth 20000 in
theorem ggX11_noCapture_X11_in : GoodIn wsX11_noCapture wsX11_in := goodIn_r _ [5] (by decide +kernel) (by decide +kernel)
set_option maxRecDepth 20000 in
theorem gX11_noCapture_X11_in : GoodIn wsX11_noCapture (va_wsS RX11 49 yX11_in wsX11_in) := goodIn_app (goodIn_of _ (by decide +kernel)) ggX11_noCapture_X11_in
set_option maxRecDepth 20000 in
theorem ggX11_noRow_X11_in : GoodIn wsX11_noRow wsX11_in := goodIn_r _ [5] (by decide +kernel) (by decide +kernel)
set_option maxRecDepth 20000 in
theorem gX11_noRow_X11_in : GoodIn wsX11_noRow (va_wsS RX11 49 yX11_in wsX11_in) := goodIn_app (goodIn_of _ (by decide +kernel)) ggX11_noRow_X11_in
set_option maxRecDepth 20000 in
theorem ggX11_noRow_X11_isWire : GoodIn wsX11_noRow wsX11_isWire := goodIn_r _ [8, 9, 2, 3, 4, 5] (by decide +kernel) (by decide +kernel)
set_option maxRecDepth 20000 in
theorem gX11_noRow_X11_isWire : GoodIn wsX11_noRow (va_wsS RX11 53 yX11_isWire wsX11_isWire) := goodIn_app (goodIn_of _ (by decide +kernel)) ggX11_noRow_X11_isWire
set_option maxRecDepth 20000 in
theorem ggX11_capture_X11_noCapture : GoodIn wsX11_capture wsX11_noCapture := goodIn_r _ [19, 4, 20, 21, 18, 22, 23, 24, 25, 26, 27, 28, 29, 30, 31, 32] (by decide +kernel) (by decide +kernel)
set_option maxRecDepth 20000 in
theorem gX11_capture_X11_noCapture : GoodIn wsX11_capture (wsV RX11 128 RX11 yX11_noCapture wsX11_noCapture) := goodIn_app (goodIn_of _ (by decide +kernel)) ggX11_capture_X11_noCapture
set_option maxRecDepth 20000 in
theorem ggX11_capture_X11_in : GoodIn wsX11_capture wsX11_in := goodIn_r _ [22] (by decide +kernel) (by decide +kernel)
set_option maxRecDepth 20000 in
theorem gX11_capture_X11_in : GoodIn wsX11_capture (va_wsS RX11 49 yX11_in wsX11_in) := goodIn_app (goodIn_of _ (by decide +kernel)) ggX11_capture_X11_in
set_option maxRecDepth 20000 in
theorem ggX11_samples_X11_noCapture : GoodIn wsX11_samples wsX11_noCapture := goodIn_r _ [6, 7, 8, 9, 5, 10, 11, 12, 13, 14, 15, 16, 17, 18, 19, 20] (by decide +kernel) (by decide +kernel)
set_option maxRecDepth 20000 in
theorem gX11_samples_X11_noCapture : GoodIn wsX11_samples (wsV RX11 128 RX11 yX11_noCapture wsX11_noCapture) := goodIn_app (goodIn_of _ (by decide +kernel)) ggX11_samples_X11_noCapture
set_option maxRecDepth 20000 in
theorem ggX11_sample_X11_noCapture : GoodIn wsX11_sample wsX11_noCapture := goodIn_r _ [7, 2, 8, 9, 6, 10, 11, 12, 13, 14, 15, 16, 17, 18, 19, 20] (by decide +kernel) (by decide +kernel)
set_option maxRecDepth 20000 in
theorem gX11_sample_X11_noCapture : GoodIn wsX11_sample (wsV RX11 128 RX11 yX11_noCapture wsX11_noCapture) := goodIn_app (goodIn_of _ (by decide +kernel)) ggX11_sample_X11_noCapture
set_option maxRecDepth 20000 in
theorem ggX11_sample_X11_in : GoodIn wsX11_sample wsX11_in := goodIn_r _ [10] (by decide +kernel) (by decide +kernel)
set_option maxRecDepth 20000 in
theorem gX11_sample_X11_in : GoodIn wsX11_sample (va_wsS RX11 49 yX11_in wsX11_in) := goodIn_app (goodIn_of _ (by decide +kernel)) ggX11_sample_X11_in
set_option maxRecDepth 20000 in
theorem ggX11_isEdge_X11_isHigh : GoodIn wsX11_isEdge wsX11_isHigh := goodIn_r _ [5, 6, 7, 8, 9, 10, 11, 12, 13, 14, 15, 16] (by decide +kernel) (by decide +kernel)
set_option maxRecDepth 20000 in
theorem gX11_isEdge_X11_isHigh : GoodIn wsX11_isEdge (wsV RX11 133 RX11 yX11_isHigh wsX11_isHigh) := goodIn_app (goodIn_of _ (by decide +kernel)) ggX11_isEdge_X11_isHigh
set_option maxRecDepth 20000 in
theorem ggX11_falls_X11_isEdge : GoodIn wsX11_falls wsX11_isEdge := goodIn_r _ [5, 6, 7, 8, 4, 9, 10, 11, 12, 13, 14, 15, 16, 17, 18, 19, 20] (by decide +kernel) (by decide +kernel)
set_option maxRecDepth 20000 in
theorem gX11_falls_X11_isEdge : GoodIn wsX11_falls (wsV RX11 137 RX11 yX11_isEdge wsX11_isEdge) := goodIn_app (goodIn_of _ (by decide +kernel)) ggX11_falls_X11_isEdge
set_option maxRecDepth 20000 in
theorem ggX11_falls_X11_isHigh : GoodIn wsX11_falls wsX11_isHigh := goodIn_r _ [9, 10, 11, 12, 13, 14, 15, 16, 17, 18, 19, 20] (by decide +kernel) (by decide +kernel)
set_option maxRecDepth 20000 in
theorem gX11_falls_X11_isHigh : GoodIn wsX11_falls (wsV RX11 133 RX11 yX11_isHigh wsX11_isHigh) := goodIn_app (goodIn_of _ (by decide +kernel)) ggX11_falls_X11_isHigh
set_option maxRecDepth 20000 in
theorem ggX11_rises_X11_isEdge : GoodIn wsX11_rises wsX11_isEdge := goodIn_r _ [5, 6, 7, 8, 4, 9, 10, 11, 12, 13, 14, 15, 16, 17, 18, 19, 20] (by decide +kernel) (by decide +kernel)
set_option maxRecDepth 20000 in
theorem gX11_rises_X11_isEdge : GoodIn wsX11_rises (wsV RX11 137 RX11 yX11_isEdge wsX11_isEdge) := goodIn_app (goodIn_of _ (by decide +kernel)) ggX11_rises_X11_isEdge
set_option maxRecDepth 20000 in
theorem ggX11_rises_X11_isHigh : GoodIn wsX11_rises wsX11_isHigh := goodIn_r _ [9, 10, 11, 12, 13, 14, 15, 16, 17, 18, 19, 20] (by decide +kernel) (by decide +kernel)
set_option maxRecDepth 20000 in
theorem gX11_rises_X11_isHigh : GoodIn wsX11_rises (wsV RX11 133 RX11 yX11_isHigh wsX11_isHigh) := goodIn_app (goodIn_of _ (by decide +kernel)) ggX11_rises_X11_isHigh
set_option maxRecDepth 20000 in
theorem ggX11_runsOf_Jx4a65c_init_da8c8 : GoodIn wsX11_runsOf wsJx4a65c_init_da8c8 := goodIn_r _ [8, 9, 10, 11, 12, 13, 14, 15, 16, 17, 18, 19, 20, 21, 22, 130, 131, 132] (by decide +kernel) (by decide +kernel)
set_option maxRecDepth 20000 in
theorem gX11_runsOf_Jx4a65c_init_da8c8 : GoodIn wsX11_runsOf (wsJx4a65c_init_da8c8) := ggX11_runsOf_Jx4a65c_init_da8c8
set_option maxRecDepth 20000 in
theorem ggX11_runsOf_X11_isEdge : GoodIn wsX11_runsOf wsX11_isEdge := goodIn_r _ [27, 28, 29, 30, 26, 31, 4, 133, 134, 135, 136, 137, 138, 139, 140, 141, 142] (by decide +kernel) (by decide +kernel)
set_option maxRecDepth 20000 in
theorem gX11_runsOf_X11_isEdge : GoodIn wsX11_runsOf (wsV RX11 137 RX11 yX11_isEdge wsX11_isEdge) := goodIn_app (goodIn_of _ (by decide +kernel)) ggX11_runsOf_X11_isEdge
set_option maxRecDepth 20000 in
theorem ggX11_runsOf_J6_valueOf_2dffe : GoodIn wsX11_runsOf wsJ6_valueOf_2dffe := goodIn_r _ [35, 36, 37, 38, 39, 34, 40, 41, 42, 43, 44, 45, 46, 47, 48, 21, 22, 143] (by decide +kernel) (by decide +kernel)
set_option maxRecDepth 20000 in
theorem gX11_runsOf_J6_valueOf_2dffe : GoodIn wsX11_runsOf (va_wsS RX11 140 yJ6_valueOf_2dffe wsJ6_valueOf_2dffe) := goodIn_app (goodIn_of _ (by decide +kernel)) ggX11_runsOf_J6_valueOf_2dffe
set_option maxRecDepth 20000 in
theorem ggX11_runsOf_Jx4a65c_add_9ea2d : GoodIn wsX11_runsOf wsJx4a65c_add_9ea2d := goodIn_r _ [52, 53, 54, 10, 55, 56, 57, 58, 3, 59, 60, 61, 62, 63, 64, 65, 66, 67, 9, 68, 69, 70, 71, 72, 73, 74, 75, 76, 77, 78, 79, 80, 81, 82, 83, 84, 85, 86, 87, 88, 89, 90, 91, 92, 93, 94, 95, 96, 97, 98, 99, 100, 101, 130, 131, 132] (by decide +kernel) (by decide +kernel)
set_option maxRecDepth 20000 in
theorem gX11_runsOf_Jx4a65c_add_9ea2d : GoodIn wsX11_runsOf (wsV RX11 144 RJx4a65c yJx4a65c_add_9ea2d wsJx4a65c_add_9ea2d) := goodIn_app (goodIn_of _ (by decide +kernel)) ggX11_runsOf_Jx4a65c_add_9ea2d
set_option maxRecDepth 20000 in
theorem ggX11_runsOf_Jx4a65c_size_8abf5 : GoodIn wsX11_runsOf wsJx4a65c_size_8abf5 := goodIn_r _ [105, 55, 130, 131, 132] (by decide +kernel) (by decide +kernel)
set_option maxRecDepth 20000 in
theorem gX11_runsOf_Jx4a65c_size_8abf5 : GoodIn wsX11_runsOf (wsV RX11 148 RJx4a65c yJx4a65c_size_8abf5 wsJx4a65c_size_8abf5) := goodIn_app (goodIn_of _ (by decide +kernel)) ggX11_runsOf_Jx4a65c_size_8abf5
set_option maxRecDepth 20000 in
theorem ggX11_runsOf_Jx4a65c_get_915e3 : GoodIn wsX11_runsOf wsJx4a65c_get_915e3 := goodIn_r _ [109, 55, 110, 111, 112, 113, 114, 115, 116, 117, 118, 119, 120, 3, 121, 10, 130, 131, 132] (by decide +kernel) (by decide +kernel)
set_option maxRecDepth 20000 in
theorem gX11_runsOf_Jx4a65c_get_915e3 : GoodIn wsX11_runsOf (wsV RX11 152 RJx4a65c yJx4a65c_get_915e3 wsJx4a65c_get_915e3) := goodIn_app (goodIn_of _ (by decide +kernel)) ggX11_runsOf_Jx4a65c_get_915e3
set_option maxRecDepth 20000 in
theorem ggX11_runsOf_J6_intValue_8abf5 : GoodIn wsX11_runsOf wsJ6_intValue_8abf5 := goodIn_r _ [125, 43, 143] (by decide +kernel) (by decide +kernel)
set_option maxRecDepth 20000 in
theorem gX11_runsOf_J6_intValue_8abf5 : GoodIn wsX11_runsOf (wsV RX11 156 RJ6 yJ6_intValue_8abf5 wsJ6_intValue_8abf5) := goodIn_app (goodIn_of _ (by decide +kernel)) ggX11_runsOf_J6_intValue_8abf5
set_option maxRecDepth 20000 in
theorem ggX11_runsOf_Jx4a65c_set_bcc79 : GoodIn wsX11_runsOf wsJx4a65c_set_bcc79 := goodIn_r _ [129, 55, 10, 110, 111, 112, 113, 114, 115, 116, 117, 118, 119, 120, 3, 121, 130, 131, 132] (by decide +kernel) (by decide +kernel)
set_option maxRecDepth 20000 in
theorem gX11_runsOf_Jx4a65c_set_bcc79 : GoodIn wsX11_runsOf (wsV RX11 159 RJx4a65c yJx4a65c_set_bcc79 wsJx4a65c_set_bcc79) := goodIn_app (goodIn_of _ (by decide +kernel)) ggX11_runsOf_Jx4a65c_set_bcc79
set_option maxRecDepth 20000 in
theorem ggX11_runs_X11_noRow : GoodIn wsX11_runs wsX11_noRow := goodIn_r _ [5, 6, 7, 8, 4, 9, 10, 11, 12, 13, 146, 147, 148, 149, 150, 151, 152, 153, 154, 155] (by decide +kernel) (by decide +kernel)
set_option maxRecDepth 20000 in
theorem gX11_runs_X11_noRow : GoodIn wsX11_runs (wsV RX11 163 RX11 yX11_noRow wsX11_noRow) := goodIn_app (goodIn_of _ (by decide +kernel)) ggX11_runs_X11_noRow
set_option maxRecDepth 20000 in
theorem ggX11_runs_X11_runsOf : GoodIn wsX11_runs wsX11_runsOf := goodIn_r _ [17, 18, 19, 20, 21, 22, 23, 24, 25, 26, 27, 28, 29, 30, 31, 32, 33, 34, 35, 36, 37, 38, 39, 40, 41, 42, 4, 43, 44, 45, 46, 47, 48, 49, 50, 51, 52, 53, 54, 55, 56, 57, 58, 59, 60, 61, 62, 63, 64, 65, 66, 67, 68, 69, 70, 71, 72, 73, 74, 75, 76, 77, 78, 79, 80, 81, 82, 83, 84, 85, 86, 87, 88, 89, 90, 91, 92, 93, 94, 95, 96, 97, 98, 99, 100, 101, 102, 103, 104, 105, 106, 107, 108, 109, 110, 111, 112, 113, 114, 115, 116, 117, 118, 119, 120, 121, 122, 123, 124, 125, 126, 127, 128, 129, 130, 131, 132, 133, 134, 135, 136, 137, 138, 139, 140, 141, 142, 143, 144, 145, 156, 157, 158, 146, 147, 148, 149, 150, 151, 152, 153, 154, 155, 159] (by decide +kernel) (by decide +kernel)
set_option maxRecDepth 20000 in
theorem gX11_runs_X11_runsOf : GoodIn wsX11_runs (wsV RX11 166 RX11 yX11_runsOf wsX11_runsOf) := goodIn_app (goodIn_of _ (by decide +kernel)) ggX11_runs_X11_runsOf
set_option maxRecDepth 20000 in
theorem ggX11_runs_Jx4a65c_size_8abf5 : GoodIn wsX11_runs wsJx4a65c_size_8abf5 := goodIn_r _ [121, 71, 156, 157, 158] (by decide +kernel) (by decide +kernel)
set_option maxRecDepth 20000 in
theorem gX11_runs_Jx4a65c_size_8abf5 : GoodIn wsX11_runs (wsV RX11 148 RJx4a65c yJx4a65c_size_8abf5 wsJx4a65c_size_8abf5) := goodIn_app (goodIn_of _ (by decide +kernel)) ggX11_runs_Jx4a65c_size_8abf5
set_option maxRecDepth 20000 in
theorem ggX11_run_X11_noRow : GoodIn wsX11_run wsX11_noRow := goodIn_r _ [7, 1, 8, 9, 6, 10, 11, 12, 13, 14, 146, 147, 148, 149, 150, 151, 152, 153, 154, 155] (by decide +kernel) (by decide +kernel)
set_option maxRecDepth 20000 in
theorem gX11_run_X11_noRow : GoodIn wsX11_run (wsV RX11 163 RX11 yX11_noRow wsX11_noRow) := goodIn_app (goodIn_of _ (by decide +kernel)) ggX11_run_X11_noRow
set_option maxRecDepth 20000 in
theorem ggX11_run_X11_runsOf : GoodIn wsX11_run wsX11_runsOf := goodIn_r _ [18, 19, 20, 21, 22, 2, 23, 24, 25, 26, 27, 28, 29, 30, 31, 32, 33, 34, 35, 36, 37, 38, 39, 40, 41, 42, 6, 43, 44, 45, 46, 47, 48, 49, 50, 51, 52, 53, 54, 55, 56, 57, 58, 59, 60, 61, 62, 63, 64, 65, 66, 67, 68, 69, 70, 71, 72, 73, 74, 75, 76, 77, 78, 79, 80, 81, 82, 83, 84, 85, 86, 87, 88, 89, 90, 91, 92, 93, 94, 95, 96, 97, 98, 99, 100, 101, 102, 103, 104, 105, 106, 107, 108, 109, 110, 111, 112, 113, 114, 115, 116, 117, 118, 119, 120, 121, 122, 123, 124, 125, 126, 127, 128, 129, 130, 131, 132, 133, 134, 135, 136, 137, 138, 139, 140, 141, 142, 143, 144, 145, 156, 157, 158, 146, 147, 148, 149, 150, 151, 152, 153, 154, 155, 159] (by decide +kernel) (by decide +kernel)
set_option maxRecDepth 20000 in
theorem gX11_run_X11_runsOf : GoodIn wsX11_run (wsV RX11 166 RX11 yX11_runsOf wsX11_runsOf) := goodIn_app (goodIn_of _ (by decide +kernel)) ggX11_run_X11_runsOf
set_option maxRecDepth 20000 in
theorem ggX11_run_Jx4a65c_size_8abf5 : GoodIn wsX11_run wsJx4a65c_size_8abf5 := goodIn_r _ [121, 71, 156, 157, 158] (by decide +kernel) (by decide +kernel)
set_option maxRecDepth 20000 in
theorem gX11_run_Jx4a65c_size_8abf5 : GoodIn wsX11_run (wsV RX11 148 RJx4a65c yJx4a65c_size_8abf5 wsJx4a65c_size_8abf5) := goodIn_app (goodIn_of _ (by decide +kernel)) ggX11_run_Jx4a65c_size_8abf5
set_option maxRecDepth 20000 in
theorem ggX11_run_X11_in : GoodIn wsX11_run wsX11_in := goodIn_r _ [10] (by decide +kernel) (by decide +kernel)
set_option maxRecDepth 20000 in
theorem gX11_run_X11_in : GoodIn wsX11_run (va_wsS RX11 49 yX11_in wsX11_in) := goodIn_app (goodIn_of _ (by decide +kernel)) ggX11_run_X11_in
set_option maxRecDepth 20000 in
theorem ggX11_run_Jx4a65c_get_915e3 : GoodIn wsX11_run wsJx4a65c_get_915e3 := goodIn_r _ [125, 71, 126, 127, 128, 129, 130, 131, 132, 133, 134, 135, 136, 21, 137, 27, 156, 157, 158] (by decide +kernel) (by decide +kernel)
set_option maxRecDepth 20000 in
theorem gX11_run_Jx4a65c_get_915e3 : GoodIn wsX11_run (wsV RX11 152 RJx4a65c yJx4a65c_get_915e3 wsJx4a65c_get_915e3) := goodIn_app (goodIn_of _ (by decide +kernel)) ggX11_run_Jx4a65c_get_915e3
set_option maxRecDepth 20000 in
theorem ggX11_run_J6_intValue_8abf5 : GoodIn wsX11_run wsJ6_intValue_8abf5 := goodIn_r _ [141, 59, 159] (by decide +kernel) (by decide +kernel)
set_option maxRecDepth 20000 in
theorem gX11_run_J6_intValue_8abf5 : GoodIn wsX11_run (wsV RX11 156 RJ6 yJ6_intValue_8abf5 wsJ6_intValue_8abf5) := goodIn_app (goodIn_of _ (by decide +kernel)) ggX11_run_J6_intValue_8abf5
set_option maxRecDepth 20000 in
theorem ggX11_shortest_X11_noRow : GoodIn wsX11_shortest wsX11_noRow := goodIn_r _ [11, 6, 12, 13, 10, 14, 15, 16, 17, 18, 147, 148, 149, 150, 151, 152, 153, 154, 155, 156] (by decide +kernel) (by decide +kernel)
set_option maxRecDepth 20000 in
theorem gX11_shortest_X11_noRow : GoodIn wsX11_shortest (wsV RX11 163 RX11 yX11_noRow wsX11_noRow) := goodIn_app (goodIn_of _ (by decide +kernel)) ggX11_shortest_X11_noRow
set_option maxRecDepth 20000 in
theorem ggX11_shortest_X11_runsOf : GoodIn wsX11_shortest wsX11_runsOf := goodIn_r _ [22, 23, 24, 25, 26, 1, 27, 28, 29, 30, 31, 32, 33, 34, 35, 36, 37, 38, 39, 40, 41, 42, 43, 44, 45, 46, 10, 47, 48, 49, 50, 51, 52, 53, 54, 55, 56, 57, 58, 59, 60, 61, 62, 63, 64, 65, 66, 67, 68, 69, 70, 71, 72, 73, 74, 75, 76, 77, 78, 79, 80, 81, 82, 83, 84, 85, 86, 87, 88, 89, 4, 90, 91, 92, 93, 94, 95, 96, 97, 98, 99, 100, 101, 102, 103, 104, 105, 106, 107, 108, 109, 110, 111, 112, 113, 114, 3, 5, 115, 116, 117, 118, 119, 120, 121, 122, 123, 124, 125, 126, 127, 128, 129, 130, 131, 132, 133, 134, 135, 136, 137, 138, 139, 140, 141, 142, 143, 144, 145, 146, 157, 158, 159, 147, 148, 149, 150, 151, 152, 153, 154, 155, 156, 160] (by decide +kernel) (by decide +kernel)
set_option maxRecDepth 20000 in
theorem gX11_shortest_X11_runsOf : GoodIn wsX11_shortest (wsV RX11 166 RX11 yX11_runsOf wsX11_runsOf) := goodIn_app (goodIn_of _ (by decide +kernel)) ggX11_shortest_X11_runsOf
set_option maxRecDepth 20000 in
theorem ggX11_shortest_Jx4a65c_size_8abf5 : GoodIn wsX11_shortest wsJx4a65c_size_8abf5 := goodIn_r _ [122, 75, 157, 158, 159] (by decide +kernel) (by decide +kernel)
set_option maxRecDepth 20000 in
theorem gX11_shortest_Jx4a65c_size_8abf5 : GoodIn wsX11_shortest (wsV RX11 148 RJx4a65c yJx4a65c_size_8abf5 wsJx4a65c_size_8abf5) := goodIn_app (goodIn_of _ (by decide +kernel)) ggX11_shortest_Jx4a65c_size_8abf5
set_option maxRecDepth 20000 in
theorem ggX11_shortest_Jx4a65c_get_915e3 : GoodIn wsX11_shortest wsJx4a65c_get_915e3 := goodIn_r _ [126, 75, 127, 128, 129, 130, 131, 132, 133, 134, 135, 136, 137, 25, 138, 31, 157, 158, 159] (by decide +kernel) (by decide +kernel)
set_option maxRecDepth 20000 in
theorem gX11_shortest_Jx4a65c_get_915e3 : GoodIn wsX11_shortest (wsV RX11 152 RJx4a65c yJx4a65c_get_915e3 wsJx4a65c_get_915e3) := goodIn_app (goodIn_of _ (by decide +kernel)) ggX11_shortest_Jx4a65c_get_915e3
set_option maxRecDepth 20000 in
theorem ggX11_shortest_J6_intValue_8abf5 : GoodIn wsX11_shortest wsJ6_intValue_8abf5 := goodIn_r _ [142, 63, 160] (by decide +kernel) (by decide +kernel)
set_option maxRecDepth 20000 in
theorem gX11_shortest_J6_intValue_8abf5 : GoodIn wsX11_shortest (wsV RX11 156 RJ6 yJ6_intValue_8abf5 wsJ6_intValue_8abf5) := goodIn_app (goodIn_of _ (by decide +kernel)) ggX11_shortest_J6_intValue_8abf5
set_option maxRecDepth 20000 in
theorem ggX11_block_X11_noRow : GoodIn wsX11_block wsX11_noRow := goodIn_r _ [15, 2, 16, 17, 14, 18, 19, 20, 21, 22, 27, 28, 29, 30, 31, 32, 33, 34, 35, 36] (by decide +kernel) (by decide +kernel)
set_option maxRecDepth 20000 in
theorem gX11_block_X11_noRow : GoodIn wsX11_block (wsV RX11 163 RX11 yX11_noRow wsX11_noRow) := goodIn_app (goodIn_of _ (by decide +kernel)) ggX11_block_X11_noRow
set_option maxRecDepth 20000 in
theorem ggX11_block_X11_in : GoodIn wsX11_block wsX11_in := goodIn_r _ [18] (by decide +kernel) (by decide +kernel)
set_option maxRecDepth 20000 in
theorem gX11_block_X11_in : GoodIn wsX11_block (va_wsS RX11 49 yX11_in wsX11_in) := goodIn_app (goodIn_of _ (by decide +kernel)) ggX11_block_X11_in
set_option maxRecDepth 20000 in
theorem ggX11_block_X11_isHigh : GoodIn wsX11_block wsX11_isHigh := goodIn_r _ [26, 3, 27, 28, 29, 30, 31, 32, 33, 34, 35, 36] (by decide +kernel) (by decide +kernel)
set_option maxRecDepth 20000 in
theorem gX11_block_X11_isHigh : GoodIn wsX11_block (wsV RX11 133 RX11 yX11_isHigh wsX11_isHigh) := goodIn_app (goodIn_of _ (by decide +kernel)) ggX11_block_X11_isHigh
set_option maxRecDepth 20000 in
theorem ggX11_step_X11_isWire : GoodIn wsX11_step wsX11_isWire := goodIn_r _ [11, 12, 13, 14, 10, 15] (by decide +kernel) (by decide +kernel)
set_option maxRecDepth 20000 in
theorem gX11_step_X11_isWire : GoodIn wsX11_step (va_wsS RX11 53 yX11_isWire wsX11_isWire) := goodIn_app (goodIn_of _ (by decide +kernel)) ggX11_step_X11_isWire
set_option maxRecDepth 20000 in
theorem ggX11_step_J0_indexOf_0f7a4 : GoodIn wsX11_step wsJ0_indexOf_0f7a4 := goodIn_r _ [20, 21, 22, 23, 19, 24, 25, 26, 27, 28, 29, 30, 31, 32, 33, 34, 35, 36, 37, 38, 39, 40, 41, 42, 43, 44, 45, 46, 47, 48, 49, 50, 51, 52, 53, 54, 55, 56, 57, 58, 59, 60, 61, 62, 63, 64, 65, 66, 67, 68, 69, 70, 71, 72, 73, 74, 75, 76, 77, 78, 79, 80, 81, 82, 83, 84, 85, 86, 87, 88, 89, 90, 91, 92, 93, 94, 95, 96, 97, 98, 99, 100, 101, 102, 103, 104] (by decide +kernel) (by decide +kernel)
set_option maxRecDepth 20000 in
theorem gX11_step_J0_indexOf_0f7a4 : GoodIn wsX11_step (wsV RX11 183 RJ0 yJ0_indexOf_0f7a4 wsJ0_indexOf_0f7a4) := goodIn_app (goodIn_of _ (by decide +kernel)) ggX11_step_J0_indexOf_0f7a4
set_option maxRecDepth 20000 in
theorem ggX11_step_X11_in : GoodIn wsX11_step wsX11_in := goodIn_r _ [15] (by decide +kernel) (by decide +kernel)
set_option maxRecDepth 20000 in
theorem gX11_step_X11_in : GoodIn wsX11_step (va_wsS RX11 49 yX11_in wsX11_in) := goodIn_app (goodIn_of _ (by decide +kernel)) ggX11_step_X11_in
set_option maxRecDepth 20000 in
theorem ggX11_step_Jx4a65c_size_8abf5 : GoodIn wsX11_step wsJx4a65c_size_8abf5 := goodIn_r _ [109, 110, 182, 183, 184] (by decide +kernel) (by decide +kernel)
set_option maxRecDepth 20000 in
theorem gX11_step_Jx4a65c_size_8abf5 : GoodIn wsX11_step (wsV RX11 148 RJx4a65c yJx4a65c_size_8abf5 wsJx4a65c_size_8abf5) := goodIn_app (goodIn_of _ (by decide +kernel)) ggX11_step_Jx4a65c_size_8abf5
set_option maxRecDepth 20000 in
theorem ggX11_step_X10_init : GoodIn wsX11_step wsX10_init := goodIn_r _ [113, 114, 115, 116, 117, 118, 119, 179, 180, 181] (by decide +kernel) (by decide +kernel)
set_option maxRecDepth 20000 in
theorem gX11_step_X10_init : GoodIn wsX11_step (wsX10_init) := ggX11_step_X10_init
set_option maxRecDepth 20000 in
theorem ggX11_step_Jx4a65c_add_9ea2d : GoodIn wsX11_step wsJx4a65c_add_9ea2d := goodIn_r _ [123, 124, 125, 126, 110, 127, 128, 129, 108, 130, 131, 132, 133, 134, 135, 136, 137, 138, 139, 140, 45, 46, 47, 141, 142, 143, 144, 145, 146, 147, 148, 149, 150, 151, 152, 153, 154, 155, 156, 157, 158, 159, 160, 161, 162, 163, 164, 49, 50, 165, 166, 167, 168, 182, 183, 184] (by decide +kernel) (by decide +kernel)
set_option maxRecDepth 20000 in
theorem gX11_step_Jx4a65c_add_9ea2d : GoodIn wsX11_step (wsV RX11 144 RJx4a65c yJx4a65c_add_9ea2d wsJx4a65c_add_9ea2d) := goodIn_app (goodIn_of _ (by decide +kernel)) ggX11_step_Jx4a65c_add_9ea2d
set_option maxRecDepth 20000 in
theorem ggX11_reset_Jx4a65c_size_8abf5 : GoodIn wsX11_reset wsJx4a65c_size_8abf5 := goodIn_r _ [7, 8, 26, 27, 28] (by decide +kernel) (by decide +kernel)
set_option maxRecDepth 20000 in
theorem gX11_reset_Jx4a65c_size_8abf5 : GoodIn wsX11_reset (wsV RX11 148 RJx4a65c yJx4a65c_size_8abf5 wsJx4a65c_size_8abf5) := goodIn_app (goodIn_of _ (by decide +kernel)) ggX11_reset_Jx4a65c_size_8abf5
set_option maxRecDepth 20000 in
theorem ggX11_reset_Jx4a65c_clear_da8c8 : GoodIn wsX11_reset wsJx4a65c_clear_da8c8 := goodIn_r _ [12, 13, 14, 15, 8, 26, 27, 28] (by decide +kernel) (by decide +kernel)
set_option maxRecDepth 20000 in
theorem gX11_reset_Jx4a65c_clear_da8c8 : GoodIn wsX11_reset (wsV RX11 193 RJx4a65c yJx4a65c_clear_da8c8 wsJx4a65c_clear_da8c8) := goodIn_app (goodIn_of _ (by decide +kernel)) ggX11_reset_Jx4a65c_clear_da8c8
set_option maxRecDepth 20000 in
theorem ggX11_meets_X11_rises : GoodIn wsX11_meets wsX11_rises := goodIn_r _ [6, 7, 8, 9, 5, 10, 11, 12, 13, 14, 1, 19, 20, 21, 22, 23, 24, 25, 26, 27, 28] (by decide +kernel) (by decide +kernel)
set_option maxRecDepth 20000 in
theorem gX11_meets_X11_rises : GoodIn wsX11_meets (wsV RX11 203 RX11 yX11_rises wsX11_rises) := goodIn_app (goodIn_of _ (by decide +kernel)) ggX11_meets_X11_rises
set_option maxRecDepth 20000 in
theorem ggX11_meets_X11_falls : GoodIn wsX11_meets wsX11_falls := goodIn_r _ [18, 7, 8, 9, 5, 10, 11, 12, 13, 14, 1, 19, 20, 21, 22, 23, 24, 25, 26, 27, 28] (by decide +kernel) (by decide +kernel)
set_option maxRecDepth 20000 in
theorem gX11_meets_X11_falls : GoodIn wsX11_meets (wsV RX11 206 RX11 yX11_falls wsX11_falls) := goodIn_app (goodIn_of _ (by decide +kernel)) ggX11_meets_X11_falls
set_option maxRecDepth 20000 in
theorem ggX11_meets_X11_isHigh : GoodIn wsX11_meets wsX11_isHigh := goodIn_r _ [14, 1, 19, 20, 21, 22, 23, 24, 25, 26, 27, 28] (by decide +kernel) (by decide +kernel)
set_option maxRecDepth 20000 in
theorem gX11_meets_X11_isHigh : GoodIn wsX11_meets (wsV RX11 133 RX11 yX11_isHigh wsX11_isHigh) := goodIn_app (goodIn_of _ (by decide +kernel)) ggX11_meets_X11_isHigh
set_option maxRecDepth 20000 in
theorem ggX11_trigger_X11_noCapture : GoodIn wsX11_trigger wsX11_noCapture := goodIn_r _ [8, 2, 9, 10, 7, 11, 71, 72, 73, 74, 75, 76, 77, 78, 79, 80] (by decide +kernel) (by decide +kernel)
set_option maxRecDepth 20000 in
theorem gX11_trigger_X11_noCapture : GoodIn wsX11_trigger (wsV RX11 128 RX11 yX11_noCapture wsX11_noCapture) := goodIn_app (goodIn_of _ (by decide +kernel)) ggX11_trigger_X11_noCapture
set_option maxRecDepth 20000 in
theorem ggX11_trigger_Jx4a65c_isEmpty_aae02 : GoodIn wsX11_trigger wsJx4a65c_isEmpty_aae02 := goodIn_r _ [16, 17, 81, 82, 83] (by decide +kernel) (by decide +kernel)
set_option maxRecDepth 20000 in
theorem gX11_trigger_Jx4a65c_isEmpty_aae02 : GoodIn wsX11_trigger (wsV RX11 212 RJx4a65c yJx4a65c_isEmpty_aae02 wsJx4a65c_isEmpty_aae02) := goodIn_app (goodIn_of _ (by decide +kernel)) ggX11_trigger_Jx4a65c_isEmpty_aae02
set_option maxRecDepth 20000 in
theorem ggX11_trigger_Jx4a65c_iterator_32c93 : GoodIn wsX11_trigger wsJx4a65c_iterator_32c93 := goodIn_r _ [21, 22, 23, 24, 25, 26, 27, 28, 29, 30, 31, 32, 33, 34, 35, 84, 85, 86, 87, 81, 82, 83] (by decide +kernel) (by decide +kernel)
set_option maxRecDepth 20000 in
theorem gX11_trigger_Jx4a65c_iterator_32c93 : GoodIn wsX11_trigger (wsV RX11 216 RJx4a65c yJx4a65c_iterator_32c93 wsJx4a65c_iterator_32c93) := goodIn_app (goodIn_of _ (by decide +kernel)) ggX11_trigger_Jx4a65c_iterator_32c93
set_option maxRecDepth 20000 in
theorem ggX11_trigger_Jx35411_hasNext_aae02 : GoodIn wsX11_trigger wsJx35411_hasNext_aae02 := goodIn_r _ [39, 40, 28, 84, 85, 86, 87, 81, 82, 83] (by decide +kernel) (by decide +kernel)
set_option maxRecDepth 20000 in
theorem gX11_trigger_Jx35411_hasNext_aae02_f220Jx35411 : GoodIn wsX11_trigger (va_wsF RX11 220 RJx35411 ⟨"java/util/Iterator", "hasNext", "()Z"⟩ yJx35411_hasNext_aae02 wsJx35411_hasNext_aae02) := goodIn_app (goodIn_of _ (by decide +kernel)) ggX11_trigger_Jx35411_hasNext_aae02
set_option maxRecDepth 20000 in
theorem ggX11_trigger_Jx35411_next_0502b : GoodIn wsX11_trigger wsJx35411_next_0502b := goodIn_r _ [44, 40, 28, 45, 32, 46, 47, 48, 24, 49, 33, 34, 35, 84, 85, 86, 87, 81, 82, 83] (by decide +kernel) (by decide +kernel)
set_option maxRecDepth 20000 in
theorem gX11_trigger_Jx35411_next_0502b_f225Jx35411 : GoodIn wsX11_trigger (va_wsF RX11 225 RJx35411 ⟨"java/util/Iterator", "next", "()Ljava/lang/Object;"⟩ yJx35411_next_0502b wsJx35411_next_0502b) := goodIn_app (goodIn_of _ (by decide +kernel)) ggX11_trigger_Jx35411_next_0502b
set_option maxRecDepth 20000 in
theorem ggX11_trigger_X11_meets : GoodIn wsX11_trigger wsX11_meets := goodIn_r _ [53, 54, 55, 56, 57, 7, 58, 59, 60, 61, 62, 63, 64, 65, 66, 67, 68, 69, 70, 71, 72, 73, 74, 75, 76, 77, 78, 79, 80, 88, 89, 90] (by decide +kernel) (by decide +kernel)
set_option maxRecDepth 20000 in
theorem gX11_trigger_X11_meets : GoodIn wsX11_trigger (wsV RX11 228 RX11 yX11_meets wsX11_meets) := goodIn_app (goodIn_of _ (by decide +kernel)) ggX11_trigger_X11_meets
set_option maxRecDepth 20000 in
theorem ggX11_notes_Jx4a65c_size_8abf5 : GoodIn wsX11_notes wsJx4a65c_size_8abf5 := goodIn_r _ [9, 10, 91, 92, 93] (by decide +kernel) (by decide +kernel)
set_option maxRecDepth 20000 in
theorem gX11_notes_Jx4a65c_size_8abf5 : GoodIn wsX11_notes (wsV RX11 148 RJx4a65c yJx4a65c_size_8abf5 wsJx4a65c_size_8abf5) := goodIn_app (goodIn_of _ (by decide +kernel)) ggX11_notes_Jx4a65c_size_8abf5
set_option maxRecDepth 20000 in
theorem ggX11_notes_X8_init : GoodIn wsX11_notes wsX8_init := goodIn_r _ [13, 14, 15, 16, 17, 18, 19, 20, 21, 86, 87, 88, 89, 90] (by decide +kernel) (by decide +kernel)
set_option maxRecDepth 20000 in
theorem gX11_notes_X8_init : GoodIn wsX11_notes (wsX8_init) := ggX11_notes_X8_init
set_option maxRecDepth 20000 in
theorem ggX11_notes_Jx4a65c_add_9ea2d : GoodIn wsX11_notes wsJx4a65c_add_9ea2d := goodIn_r _ [25, 26, 27, 28, 10, 29, 30, 31, 8, 32, 33, 34, 35, 36, 37, 38, 39, 40, 41, 42, 43, 44, 45, 46, 47, 48, 49, 50, 51, 52, 53, 54, 55, 56, 57, 58, 59, 60, 61, 62, 63, 64, 65, 66, 67, 68, 69, 70, 71, 72, 73, 74, 75, 91, 92, 93] (by decide +kernel) (by decide +kernel)
set_option maxRecDepth 20000 in
theorem gX11_notes_Jx4a65c_add_9ea2d : GoodIn wsX11_notes (wsV RX11 144 RJx4a65c yJx4a65c_add_9ea2d wsJx4a65c_add_9ea2d) := goodIn_app (goodIn_of _ (by decide +kernel)) ggX11_notes_Jx4a65c_add_9ea2d
set_option maxRecDepth 20000 in
theorem ggX11_decodeSerial_X11_noRow : GoodIn wsX11_decodeSerial wsX11_noRow := goodIn_r _ [10, 3, 11, 12, 9, 13, 14, 15, 16, 17, 115, 116, 117, 118, 119, 120, 121, 122, 123, 124] (by decide +kernel) (by decide +kernel)
set_option maxRecDepth 20000 in
theorem gX11_decodeSerial_X11_noRow : GoodIn wsX11_decodeSerial (wsV RX11 163 RX11 yX11_noRow wsX11_noRow) := goodIn_app (goodIn_of _ (by decide +kernel)) ggX11_decodeSerial_X11_noRow
set_option maxRecDepth 20000 in
theorem ggX11_decodeSerial_X11_in : GoodIn wsX11_decodeSerial wsX11_in := goodIn_r _ [13] (by decide +kernel) (by decide +kernel)
set_option maxRecDepth 20000 in
theorem gX11_decodeSerial_X11_in : GoodIn wsX11_decodeSerial (va_wsS RX11 49 yX11_in wsX11_in) := goodIn_app (goodIn_of _ (by decide +kernel)) ggX11_decodeSerial_X11_in
set_option maxRecDepth 20000 in
theorem ggX11_decodeSerial_X11_isParity : GoodIn wsX11_decodeSerial wsX11_isParity := goodIn_r _ [20] (by decide +kernel) (by decide +kernel)
set_option maxRecDepth 20000 in
theorem gX11_decodeSerial_X11_isParity : GoodIn wsX11_decodeSerial (va_wsS RX11 100 yX11_isParity wsX11_isParity) := goodIn_app (goodIn_of _ (by decide +kernel)) ggX11_decodeSerial_X11_isParity
set_option maxRecDepth 20000 in
theorem ggX11_decodeSerial_Jx4a65c_clear_da8c8 : GoodIn wsX11_decodeSerial wsJx4a65c_clear_da8c8 := goodIn_r _ [25, 26, 27, 28, 29, 125, 126, 127] (by decide +kernel) (by decide +kernel)
set_option maxRecDepth 20000 in
theorem gX11_decodeSerial_Jx4a65c_clear_da8c8 : GoodIn wsX11_decodeSerial (wsV RX11 193 RJx4a65c yJx4a65c_clear_da8c8 wsJx4a65c_clear_da8c8) := goodIn_app (goodIn_of _ (by decide +kernel)) ggX11_decodeSerial_Jx4a65c_clear_da8c8
set_option maxRecDepth 20000 in
theorem ggX11_decodeSerial_X11_falls : GoodIn wsX11_decodeSerial wsX11_falls := goodIn_r _ [33, 34, 35, 36, 9, 37, 38, 39, 40, 41, 5, 115, 116, 117, 118, 119, 120, 121, 122, 123, 124] (by decide +kernel) (by decide +kernel)
set_option maxRecDepth 20000 in
theorem gX11_decodeSerial_X11_falls : GoodIn wsX11_decodeSerial (wsV RX11 206 RX11 yX11_falls wsX11_falls) := goodIn_app (goodIn_of _ (by decide +kernel)) ggX11_decodeSerial_X11_falls
set_option maxRecDepth 20000 in
theorem ggX11_decodeSerial_X11_isHigh : GoodIn wsX11_decodeSerial wsX11_isHigh := goodIn_r _ [41, 5, 115, 116, 117, 118, 119, 120, 121, 122, 123, 124] (by decide +kernel) (by decide +kernel)
set_option maxRecDepth 20000 in
theorem gX11_decodeSerial_X11_isHigh : GoodIn wsX11_decodeSerial (wsV RX11 133 RX11 yX11_isHigh wsX11_isHigh) := goodIn_app (goodIn_of _ (by decide +kernel)) ggX11_decodeSerial_X11_isHigh
set_option maxRecDepth 20000 in
theorem ggX11_decodeSerial_X11_notes : GoodIn wsX11_decodeSerial wsX11_notes := goodIn_r _ [45, 4, 46, 47, 48, 49, 50, 51, 24, 52, 29, 53, 54, 55, 56, 57, 58, 59, 60, 61, 62, 63, 64, 65, 66, 67, 26, 27, 28, 68, 69, 70, 71, 72, 73, 74, 75, 76, 77, 78, 79, 80, 81, 82, 83, 84, 85, 86, 87, 88, 89, 90, 91, 92, 93, 94, 95, 96, 97, 98, 99, 100, 101, 102, 103, 104, 105, 106, 107, 108, 109, 110, 111, 112, 113, 114, 115, 116, 117, 118, 119, 120, 121, 122, 123, 124, 128, 129, 130, 131, 132, 125, 126, 127] (by decide +kernel) (by decide +kernel)
set_option maxRecDepth 20000 in
theorem gX11_decodeSerial_X11_notes : GoodIn wsX11_decodeSerial (wsV RX11 241 RX11 yX11_notes wsX11_notes) := goodIn_app (goodIn_of _ (by decide +kernel)) ggX11_decodeSerial_X11_notes
set_option maxRecDepth 20000 in
theorem ggX11_decodeSerial_Jx4a65c_size_8abf5 : GoodIn wsX11_decodeSerial wsJx4a65c_size_8abf5 := goodIn_r _ [52, 29, 125, 126, 127] (by decide +kernel) (by decide +kernel)
set_option maxRecDepth 20000 in
theorem gX11_decodeSerial_Jx4a65c_size_8abf5 : GoodIn wsX11_decodeSerial (wsV RX11 148 RJx4a65c yJx4a65c_size_8abf5 wsJx4a65c_size_8abf5) := goodIn_app (goodIn_of _ (by decide +kernel)) ggX11_decodeSerial_Jx4a65c_size_8abf5
set_option maxRecDepth 20000 in
theorem ggX11_decodeTwo_X11_in : GoodIn wsX11_decodeTwo wsX11_in := goodIn_r _ [8] (by decide +kernel) (by decide +kernel)
set_option maxRecDepth 20000 in
theorem gX11_decodeTwo_X11_in : GoodIn wsX11_decodeTwo (va_wsS RX11 49 yX11_in wsX11_in) := goodIn_app (goodIn_of _ (by decide +kernel)) ggX11_decodeTwo_X11_in
set_option maxRecDepth 20000 in
theorem ggX11_decodeTwo_X11_isWire : GoodIn wsX11_decodeTwo wsX11_isWire := goodIn_r _ [11, 12, 5, 6, 7, 8] (by decide +kernel) (by decide +kernel)
set_option maxRecDepth 20000 in
theorem gX11_decodeTwo_X11_isWire : GoodIn wsX11_decodeTwo (va_wsS RX11 53 yX11_isWire wsX11_isWire) := goodIn_app (goodIn_of _ (by decide +kernel)) ggX11_decodeTwo_X11_isWire
set_option maxRecDepth 20000 in
theorem ggX11_decodeTwo_Jx4a65c_clear_da8c8 : GoodIn wsX11_decodeTwo wsJx4a65c_clear_da8c8 := goodIn_r _ [17, 18, 19, 20, 21, 121, 122, 123] (by decide +kernel) (by decide +kernel)
set_option maxRecDepth 20000 in
theorem gX11_decodeTwo_Jx4a65c_clear_da8c8 : GoodIn wsX11_decodeTwo (wsV RX11 193 RJx4a65c yJx4a65c_clear_da8c8 wsJx4a65c_clear_da8c8) := goodIn_app (goodIn_of _ (by decide +kernel)) ggX11_decodeTwo_Jx4a65c_clear_da8c8
set_option maxRecDepth 20000 in
theorem ggX11_decodeTwo_X11_isHigh : GoodIn wsX11_decodeTwo wsX11_isHigh := goodIn_r _ [25, 3, 111, 112, 113, 114, 115, 116, 117, 118, 119, 120] (by decide +kernel) (by decide +kernel)
set_option maxRecDepth 20000 in
theorem gX11_decodeTwo_X11_isHigh : GoodIn wsX11_decodeTwo (wsV RX11 133 RX11 yX11_isHigh wsX11_isHigh) := goodIn_app (goodIn_of _ (by decide +kernel)) ggX11_decodeTwo_X11_isHigh
set_option maxRecDepth 20000 in
theorem ggX11_decodeTwo_X11_isEdge : GoodIn wsX11_decodeTwo wsX11_isEdge := goodIn_r _ [29, 22, 23, 24, 7, 25, 3, 111, 112, 113, 114, 115, 116, 117, 118, 119, 120] (by decide +kernel) (by decide +kernel)
set_option maxRecDepth 20000 in
theorem gX11_decodeTwo_X11_isEdge : GoodIn wsX11_decodeTwo (wsV RX11 137 RX11 yX11_isEdge wsX11_isEdge) := goodIn_app (goodIn_of _ (by decide +kernel)) ggX11_decodeTwo_X11_isEdge
set_option maxRecDepth 20000 in
theorem ggX11_decodeTwo_X11_falls : GoodIn wsX11_decodeTwo wsX11_falls := goodIn_r _ [33, 26, 27, 28, 7, 29, 22, 23, 24, 25, 3, 111, 112, 113, 114, 115, 116, 117, 118, 119, 120] (by decide +kernel) (by decide +kernel)
set_option maxRecDepth 20000 in
theorem gX11_decodeTwo_X11_falls : GoodIn wsX11_decodeTwo (wsV RX11 206 RX11 yX11_falls wsX11_falls) := goodIn_app (goodIn_of _ (by decide +kernel)) ggX11_decodeTwo_X11_falls
set_option maxRecDepth 20000 in
theorem ggX11_decodeTwo_X11_notes : GoodIn wsX11_decodeTwo wsX11_notes := goodIn_r _ [37, 2, 38, 39, 40, 41, 42, 43, 16, 44, 21, 45, 46, 47, 48, 49, 50, 51, 52, 53, 54, 55, 56, 57, 58, 59, 18, 19, 20, 60, 61, 62, 63, 64, 65, 66, 67, 68, 69, 70, 71, 72, 73, 74, 75, 76, 77, 78, 79, 80, 81, 82, 83, 84, 85, 86, 87, 88, 89, 90, 91, 92, 93, 94, 95, 96, 97, 98, 99, 100, 101, 102, 103, 104, 105, 106, 111, 112, 113, 114, 115, 116, 117, 118, 119, 120, 124, 125, 126, 127, 128, 121, 122, 123] (by decide +kernel) (by decide +kernel)
set_option maxRecDepth 20000 in
theorem gX11_decodeTwo_X11_notes : GoodIn wsX11_decodeTwo (wsV RX11 241 RX11 yX11_notes wsX11_notes) := goodIn_app (goodIn_of _ (by decide +kernel)) ggX11_decodeTwo_X11_notes
set_option maxRecDepth 20000 in
theorem ggX11_decodeTwo_X11_rises : GoodIn wsX11_decodeTwo wsX11_rises := goodIn_r _ [110, 26, 27, 28, 7, 29, 22, 23, 24, 25, 3, 111, 112, 113, 114, 115, 116, 117, 118, 119, 120] (by decide +kernel) (by decide +kernel)
set_option maxRecDepth 20000 in
theorem gX11_decodeTwo_X11_rises : GoodIn wsX11_decodeTwo (wsV RX11 203 RX11 yX11_rises wsX11_rises) := goodIn_app (goodIn_of _ (by decide +kernel)) ggX11_decodeTwo_X11_rises
set_option maxRecDepth 20000 in
theorem ggX11_decodeTwo_Jx4a65c_size_8abf5 : GoodIn wsX11_decodeTwo wsJx4a65c_size_8abf5 := goodIn_r _ [44, 21, 121, 122, 123] (by decide +kernel) (by decide +kernel)
set_option maxRecDepth 20000 in
theorem gX11_decodeTwo_Jx4a65c_size_8abf5 : GoodIn wsX11_decodeTwo (wsV RX11 148 RJx4a65c yJx4a65c_size_8abf5 wsJx4a65c_size_8abf5) := goodIn_app (goodIn_of _ (by decide +kernel)) ggX11_decodeTwo_Jx4a65c_size_8abf5
set_option maxRecDepth 20000 in
theorem ggX11_decodeFour_X11_in : GoodIn wsX11_decodeFour wsX11_in := goodIn_r _ [8] (by decide +kernel) (by decide +kernel)
set_option maxRecDepth 20000 in
theorem gX11_decodeFour_X11_in : GoodIn wsX11_decodeFour (va_wsS RX11 49 yX11_in wsX11_in) := goodIn_app (goodIn_of _ (by decide +kernel)) ggX11_decodeFour_X11_in
set_option maxRecDepth 20000 in
theorem ggX11_decodeFour_X11_isWire : GoodIn wsX11_decodeFour wsX11_isWire := goodIn_r _ [11, 2, 5, 6, 7, 8] (by decide +kernel) (by decide +kernel)
set_option maxRecDepth 20000 in
theorem gX11_decodeFour_X11_isWire : GoodIn wsX11_decodeFour (va_wsS RX11 53 yX11_isWire wsX11_isWire) := goodIn_app (goodIn_of _ (by decide +kernel)) ggX11_decodeFour_X11_isWire
set_option maxRecDepth 20000 in
theorem ggX11_decodeFour_Jx4a65c_clear_da8c8 : GoodIn wsX11_decodeFour wsJx4a65c_clear_da8c8 := goodIn_r _ [16, 17, 18, 19, 20, 120, 121, 122] (by decide +kernel) (by decide +kernel)
set_option maxRecDepth 20000 in
theorem gX11_decodeFour_Jx4a65c_clear_da8c8 : GoodIn wsX11_decodeFour (wsV RX11 193 RJx4a65c yJx4a65c_clear_da8c8 wsJx4a65c_clear_da8c8) := goodIn_app (goodIn_of _ (by decide +kernel)) ggX11_decodeFour_Jx4a65c_clear_da8c8
set_option maxRecDepth 20000 in
theorem ggX11_decodeFour_X11_isHigh : GoodIn wsX11_decodeFour wsX11_isHigh := goodIn_r _ [24, 4, 110, 111, 112, 113, 114, 115, 116, 117, 118, 119] (by decide +kernel) (by decide +kernel)
set_option maxRecDepth 20000 in
theorem gX11_decodeFour_X11_isHigh : GoodIn wsX11_decodeFour (wsV RX11 133 RX11 yX11_isHigh wsX11_isHigh) := goodIn_app (goodIn_of _ (by decide +kernel)) ggX11_decodeFour_X11_isHigh
set_option maxRecDepth 20000 in
theorem ggX11_decodeFour_X11_rises : GoodIn wsX11_decodeFour wsX11_rises := goodIn_r _ [28, 29, 30, 31, 7, 32, 21, 22, 23, 24, 4, 110, 111, 112, 113, 114, 115, 116, 117, 118, 119] (by decide +kernel) (by decide +kernel)
set_option maxRecDepth 20000 in
theorem gX11_decodeFour_X11_rises : GoodIn wsX11_decodeFour (wsV RX11 203 RX11 yX11_rises wsX11_rises) := goodIn_app (goodIn_of _ (by decide +kernel)) ggX11_decodeFour_X11_rises
set_option maxRecDepth 20000 in
theorem ggX11_decodeFour_X11_falls : GoodIn wsX11_decodeFour wsX11_falls := goodIn_r _ [36, 29, 30, 31, 7, 32, 21, 22, 23, 24, 4, 110, 111, 112, 113, 114, 115, 116, 117, 118, 119] (by decide +kernel) (by decide +kernel)
set_option maxRecDepth 20000 in
theorem gX11_decodeFour_X11_falls : GoodIn wsX11_decodeFour (wsV RX11 206 RX11 yX11_falls wsX11_falls) := goodIn_app (goodIn_of _ (by decide +kernel)) ggX11_decodeFour_X11_falls
set_option maxRecDepth 20000 in
theorem ggX11_decodeFour_X11_notes : GoodIn wsX11_decodeFour wsX11_notes := goodIn_r _ [40, 3, 41, 42, 43, 44, 45, 46, 15, 47, 20, 48, 49, 50, 51, 52, 53, 54, 55, 56, 57, 58, 59, 60, 61, 62, 17, 18, 19, 63, 64, 65, 66, 67, 68, 69, 70, 71, 72, 73, 74, 75, 76, 77, 78, 79, 80, 81, 82, 83, 84, 85, 86, 87, 88, 89, 90, 91, 92, 93, 94, 95, 96, 97, 98, 99, 100, 101, 102, 103, 104, 105, 106, 107, 108, 109, 110, 111, 112, 113, 114, 115, 116, 117, 118, 119, 123, 124, 125, 126, 127, 120, 121, 122] (by decide +kernel) (by decide +kernel)
set_option maxRecDepth 20000 in
theorem gX11_decodeFour_X11_notes : GoodIn wsX11_decodeFour (wsV RX11 241 RX11 yX11_notes wsX11_notes) := goodIn_app (goodIn_of _ (by decide +kernel)) ggX11_decodeFour_X11_notes
set_option maxRecDepth 20000 in
theorem ggX11_decodeFour_Jx4a65c_size_8abf5 : GoodIn wsX11_decodeFour wsJx4a65c_size_8abf5 := goodIn_r _ [47, 20, 120, 121, 122] (by decide +kernel) (by decide +kernel)
set_option maxRecDepth 20000 in
theorem gX11_decodeFour_Jx4a65c_size_8abf5 : GoodIn wsX11_decodeFour (wsV RX11 148 RJx4a65c yJx4a65c_size_8abf5 wsJx4a65c_size_8abf5) := goodIn_app (goodIn_of _ (by decide +kernel)) ggX11_decodeFour_Jx4a65c_size_8abf5
set_option maxRecDepth 20000 in
theorem ggX11_notes__Jx4a65c_size_8abf5 : GoodIn wsX11_notes_ wsJx4a65c_size_8abf5 := goodIn_r _ [7, 8, 19, 20, 21] (by decide +kernel) (by decide +kernel)
set_option maxRecDepth 20000 in
theorem gX11_notes__Jx4a65c_size_8abf5 : GoodIn wsX11_notes_ (wsV RX11 148 RJx4a65c yJx4a65c_size_8abf5 wsJx4a65c_size_8abf5) := goodIn_app (goodIn_of _ (by decide +kernel)) ggX11_notes__Jx4a65c_size_8abf5
set_option maxRecDepth 20000 in
theorem ggX11_noNote_Jx4a65c_size_8abf5 : GoodIn wsX11_noNote wsJx4a65c_size_8abf5 := goodIn_r _ [7, 8, 23, 24, 25] (by decide +kernel) (by decide +kernel)
set_option maxRecDepth 20000 in
theorem gX11_noNote_Jx4a65c_size_8abf5 : GoodIn wsX11_noNote (wsV RX11 148 RJx4a65c yJx4a65c_size_8abf5 wsJx4a65c_size_8abf5) := goodIn_app (goodIn_of _ (by decide +kernel)) ggX11_noNote_Jx4a65c_size_8abf5
set_option maxRecDepth 20000 in
theorem ggX11_noNote_X11_in : GoodIn wsX11_noNote wsX11_in := goodIn_r _ [12] (by decide +kernel) (by decide +kernel)
set_option maxRecDepth 20000 in
theorem gX11_noNote_X11_in : GoodIn wsX11_noNote (va_wsS RX11 49 yX11_in wsX11_in) := goodIn_app (goodIn_of _ (by decide +kernel)) ggX11_noNote_X11_in
set_option maxRecDepth 20000 in
theorem ggX11_kind_X11_noNote : GoodIn wsX11_kind wsX11_noNote := goodIn_r _ [7, 1, 8, 9, 10, 11, 12, 13, 14, 15, 16, 6, 17, 35, 36, 37, 38, 39, 40, 41, 42, 43, 44, 50, 51, 52] (by decide +kernel) (by decide +kernel)
set_option maxRecDepth 20000 in
theorem gX11_kind_X11_noNote : GoodIn wsX11_kind (wsV RX11 243 RX11 yX11_noNote wsX11_noNote) := goodIn_app (goodIn_of _ (by decide +kernel)) ggX11_kind_X11_noNote
set_option maxRecDepth 20000 in
theorem ggX11_kind_Jx4a65c_get_915e3 : GoodIn wsX11_kind wsJx4a65c_get_915e3 := goodIn_r _ [21, 14, 22, 23, 24, 25, 26, 27, 28, 29, 30, 31, 32, 12, 33, 34, 50, 51, 52] (by decide +kernel) (by decide +kernel)
set_option maxRecDepth 20000 in
theorem gX11_kind_Jx4a65c_get_915e3 : GoodIn wsX11_kind (wsV RX11 152 RJx4a65c yJx4a65c_get_915e3 wsJx4a65c_get_915e3) := goodIn_app (goodIn_of _ (by decide +kernel)) ggX11_kind_Jx4a65c_get_915e3
set_option maxRecDepth 20000 in
theorem ggX11_begin_X11_noNote : GoodIn wsX11_begin wsX11_noNote := goodIn_r _ [7, 1, 8, 9, 10, 11, 12, 13, 14, 15, 16, 6, 17, 35, 36, 37, 38, 39, 40, 41, 42, 43, 44, 50, 51, 52] (by decide +kernel) (by decide +kernel)
set_option maxRecDepth 20000 in
theorem gX11_begin_X11_noNote : GoodIn wsX11_begin (wsV RX11 243 RX11 yX11_noNote wsX11_noNote) := goodIn_app (goodIn_of _ (by decide +kernel)) ggX11_begin_X11_noNote
set_option maxRecDepth 20000 in
theorem ggX11_begin_Jx4a65c_get_915e3 : GoodIn wsX11_begin wsJx4a65c_get_915e3 := goodIn_r _ [21, 14, 22, 23, 24, 25, 26, 27, 28, 29, 30, 31, 32, 12, 33, 34, 50, 51, 52] (by decide +kernel) (by decide +kernel)
set_option maxRecDepth 20000 in
theorem gX11_begin_Jx4a65c_get_915e3 : GoodIn wsX11_begin (wsV RX11 152 RJx4a65c yJx4a65c_get_915e3 wsJx4a65c_get_915e3) := goodIn_app (goodIn_of _ (by decide +kernel)) ggX11_begin_Jx4a65c_get_915e3
set_option maxRecDepth 20000 in
theorem ggX11_end_X11_noNote : GoodIn wsX11_end wsX11_noNote := goodIn_r _ [7, 1, 8, 9, 10, 11, 12, 13, 14, 15, 16, 6, 17, 35, 36, 37, 38, 39, 40, 41, 42, 43, 44, 50, 51, 52] (by decide +kernel) (by decide +kernel)
set_option maxRecDepth 20000 in
theorem gX11_end_X11_noNote : GoodIn wsX11_end (wsV RX11 243 RX11 yX11_noNote wsX11_noNote) := goodIn_app (goodIn_of _ (by decide +kernel)) ggX11_end_X11_noNote
set_option maxRecDepth 20000 in
theorem ggX11_end_Jx4a65c_get_915e3 : GoodIn wsX11_end wsJx4a65c_get_915e3 := goodIn_r _ [21, 14, 22, 23, 24, 25, 26, 27, 28, 29, 30, 31, 32, 12, 33, 34, 50, 51, 52] (by decide +kernel) (by decide +kernel)
set_option maxRecDepth 20000 in
theorem gX11_end_Jx4a65c_get_915e3 : GoodIn wsX11_end (wsV RX11 152 RJx4a65c yJx4a65c_get_915e3 wsJx4a65c_get_915e3) := goodIn_app (goodIn_of _ (by decide +kernel)) ggX11_end_Jx4a65c_get_915e3
set_option maxRecDepth 20000 in
theorem ggX11_value_X11_noNote : GoodIn wsX11_value wsX11_noNote := goodIn_r _ [7, 1, 8, 9, 10, 11, 12, 13, 14, 15, 16, 6, 17, 35, 36, 37, 38, 39, 40, 41, 42, 43, 44, 50, 51, 52] (by decide +kernel) (by decide +kernel)
set_option maxRecDepth 20000 in
theorem gX11_value_X11_noNote : GoodIn wsX11_value (wsV RX11 243 RX11 yX11_noNote wsX11_noNote) := goodIn_app (goodIn_of _ (by decide +kernel)) ggX11_value_X11_noNote
set_option maxRecDepth 20000 in
theorem ggX11_value_Jx4a65c_get_915e3 : GoodIn wsX11_value wsJx4a65c_get_915e3 := goodIn_r _ [21, 14, 22, 23, 24, 25, 26, 27, 28, 29, 30, 31, 32, 12, 33, 34, 50, 51, 52] (by decide +kernel) (by decide +kernel)
set_option maxRecDepth 20000 in
theorem gX11_value_Jx4a65c_get_915e3 : GoodIn wsX11_value (wsV RX11 152 RJx4a65c yJx4a65c_get_915e3 wsJx4a65c_get_915e3) := goodIn_app (goodIn_of _ (by decide +kernel)) ggX11_value_Jx4a65c_get_915e3
set_option maxRecDepth 20000 in
theorem ggX11_fault_X11_noNote : GoodIn wsX11_fault wsX11_noNote := goodIn_r _ [7, 1, 8, 9, 10, 11, 12, 13, 14, 15, 16, 6, 17, 35, 36, 37, 38, 39, 40, 41, 42, 43, 44, 50, 51, 52] (by decide +kernel) (by decide +kernel)
set_option maxRecDepth 20000 in
theorem gX11_fault_X11_noNote : GoodIn wsX11_fault (wsV RX11 243 RX11 yX11_noNote wsX11_noNote) := goodIn_app (goodIn_of _ (by decide +kernel)) ggX11_fault_X11_noNote
set_option maxRecDepth 20000 in
theorem ggX11_fault_Jx4a65c_get_915e3 : GoodIn wsX11_fault wsJx4a65c_get_915e3 := goodIn_r _ [21, 14, 22, 23, 24, 25, 26, 27, 28, 29, 30, 31, 32, 12, 33, 34, 50, 51, 52] (by decide +kernel) (by decide +kernel)
set_option maxRecDepth 20000 in
theorem gX11_fault_Jx4a65c_get_915e3 : GoodIn wsX11_fault (wsV RX11 152 RJx4a65c yJx4a65c_get_915e3 wsJx4a65c_get_915e3) := goodIn_app (goodIn_of _ (by decide +kernel)) ggX11_fault_Jx4a65c_get_915e3
set_option maxRecDepth 20000 in
theorem ggX11_rate_X11_shortest : GoodIn wsX11_rate wsX11_shortest := goodIn_r _ [5, 6, 7, 8, 9, 10, 11, 12, 13, 14, 4, 15, 16, 17, 18, 19, 20, 21, 22, 23, 24, 25, 26, 27, 28, 29, 30, 31, 32, 33, 34, 35, 36, 37, 38, 39, 40, 41, 42, 43, 44, 45, 46, 47, 48, 49, 50, 51, 52, 53, 54, 55, 56, 57, 58, 59, 60, 61, 62, 63, 64, 65, 66, 67, 68, 69, 70, 71, 72, 73, 74, 75, 76, 77, 78, 79, 80, 81, 82, 83, 84, 85, 86, 87, 88, 89, 90, 91, 92, 93, 94, 95, 96, 97, 98, 99, 100, 101, 102, 103, 104, 105, 106, 107, 108, 109, 110, 111, 112, 113, 114, 115, 116, 117, 118, 119, 120, 121, 122, 123, 124, 125, 126, 127, 128, 129, 130, 131, 132, 133, 134, 135, 136, 137, 138, 139, 140, 141, 142, 143, 144, 145, 146, 147, 148, 149, 150, 151, 152, 153, 154, 155, 156, 157, 158, 159, 160, 161, 162, 163, 164] (by decide +kernel) (by decide +kernel)
set_option maxRecDepth 20000 in
theorem gX11_rate_X11_shortest : GoodIn wsX11_rate (wsV RX11 259 RX11 yX11_shortest wsX11_shortest) := goodIn_app (goodIn_of _ (by decide +kernel)) ggX11_rate_X11_shortest
set_option maxRecDepth 20000 in
theorem ggX11_register_X11_in : GoodIn wsX11_register wsX11_in := goodIn_r _ [8] (by decide +kernel) (by decide +kernel)
set_option maxRecDepth 20000 in
theorem gX11_register_X11_in : GoodIn wsX11_register (va_wsS RX11 49 yX11_in wsX11_in) := goodIn_app (goodIn_of _ (by decide +kernel)) ggX11_register_X11_in
set_option maxRecDepth 20000 in
theorem ggX11_follows_X11_in : GoodIn wsX11_follows wsX11_in := goodIn_r _ [8] (by decide +kernel) (by decide +kernel)
set_option maxRecDepth 20000 in
theorem gX11_follows_X11_in : GoodIn wsX11_follows (va_wsS RX11 49 yX11_in wsX11_in) := goodIn_app (goodIn_of _ (by decide +kernel)) ggX11_follows_X11_in
set_option maxRecDepth 20000 in
theorem ggX11_follows_Jx4a65c_iterator_32c93 : GoodIn wsX11_follows wsJx4a65c_iterator_32c93 := goodIn_r _ [13, 14, 15, 16, 17, 18, 19, 20, 21, 22, 23, 24, 25, 26, 27, 63, 64, 65, 66, 67, 68, 69] (by decide +kernel) (by decide +kernel)
set_option maxRecDepth 20000 in
theorem gX11_follows_Jx4a65c_iterator_32c93 : GoodIn wsX11_follows (wsV RX11 216 RJx4a65c yJx4a65c_iterator_32c93 wsJx4a65c_iterator_32c93) := goodIn_app (goodIn_of _ (by decide +kernel)) ggX11_follows_Jx4a65c_iterator_32c93
set_option maxRecDepth 20000 in
theorem ggX11_follows_Jx35411_hasNext_aae02 : GoodIn wsX11_follows wsJx35411_hasNext_aae02 := goodIn_r _ [31, 32, 20, 63, 64, 65, 66, 67, 68, 69] (by decide +kernel) (by decide +kernel)
set_option maxRecDepth 20000 in
theorem gX11_follows_Jx35411_hasNext_aae02_f220Jx35411 : GoodIn wsX11_follows (va_wsF RX11 220 RJx35411 ⟨"java/util/Iterator", "hasNext", "()Z"⟩ yJx35411_hasNext_aae02 wsJx35411_hasNext_aae02) := goodIn_app (goodIn_of _ (by decide +kernel)) ggX11_follows_Jx35411_hasNext_aae02
set_option maxRecDepth 20000 in
theorem ggX11_follows_Jx35411_next_0502b : GoodIn wsX11_follows wsJx35411_next_0502b := goodIn_r _ [36, 32, 20, 37, 24, 38, 39, 40, 16, 41, 25, 26, 27, 63, 64, 65, 66, 67, 68, 69] (by decide +kernel) (by decide +kernel)
set_option maxRecDepth 20000 in
theorem gX11_follows_Jx35411_next_0502b_f225Jx35411 : GoodIn wsX11_follows (va_wsF RX11 225 RJx35411 ⟨"java/util/Iterator", "next", "()Ljava/lang/Object;"⟩ yJx35411_next_0502b wsJx35411_next_0502b) := goodIn_app (goodIn_of _ (by decide +kernel)) ggX11_follows_Jx35411_next_0502b
set_option maxRecDepth 20000 in
theorem ggX11_follows_X8_isByte : GoodIn wsX11_follows wsX8_isByte := goodIn_r _ [46, 47, 58, 59, 60, 61, 62] (by decide +kernel) (by decide +kernel)
set_option maxRecDepth 20000 in
theorem gX11_follows_X8_isByte : GoodIn wsX11_follows (wsV RX11 262 RX8 yX8_isByte wsX8_isByte) := goodIn_app (goodIn_of _ (by decide +kernel)) ggX11_follows_X8_isByte
set_option maxRecDepth 20000 in
theorem ggX11_beside_X11_in : GoodIn wsX11_beside wsX11_in := goodIn_r _ [5] (by decide +kernel) (by decide +kernel)
set_option maxRecDepth 20000 in
theorem gX11_beside_X11_in : GoodIn wsX11_beside (va_wsS RX11 49 yX11_in wsX11_in) := goodIn_app (goodIn_of _ (by decide +kernel)) ggX11_beside_X11_in
set_option maxRecDepth 20000 in
theorem ggX11_noOffset_X11_in : GoodIn wsX11_noOffset wsX11_in := goodIn_r _ [7] (by decide +kernel) (by decide +kernel)
set_option maxRecDepth 20000 in
theorem gX11_noOffset_X11_in : GoodIn wsX11_noOffset (va_wsS RX11 49 yX11_in wsX11_in) := goodIn_app (goodIn_of _ (by decide +kernel)) ggX11_noOffset_X11_in
set_option maxRecDepth 20000 in
theorem ggX11_alike_X11_noOffset : GoodIn wsX11_alike wsX11_noOffset := goodIn_r _ [5, 6, 7, 8, 9, 10, 4, 11, 17, 18, 19, 20, 21, 22, 23, 24, 25, 26] (by decide +kernel) (by decide +kernel)
set_option maxRecDepth 20000 in
theorem gX11_alike_X11_noOffset : GoodIn wsX11_alike (wsV RX11 269 RX11 yX11_noOffset wsX11_noOffset) := goodIn_app (goodIn_of _ (by decide +kernel)) ggX11_alike_X11_noOffset
set_option maxRecDepth 20000 in
theorem ggX11_alike_X11_beside : GoodIn wsX11_alike wsX11_beside := goodIn_r _ [15, 16, 9, 10, 4, 11, 17, 18, 19, 20, 21, 22, 23, 24, 25, 26] (by decide +kernel) (by decide +kernel)
set_option maxRecDepth 20000 in
theorem gX11_alike_X11_beside : GoodIn wsX11_alike (wsV RX11 272 RX11 yX11_beside wsX11_beside) := goodIn_app (goodIn_of _ (by decide +kernel)) ggX11_alike_X11_beside
set_option maxRecDepth 20000 in
theorem ggX11_differs_X11_noOffset : GoodIn wsX11_differs wsX11_noOffset := goodIn_r _ [6, 7, 8, 1, 9, 10, 5, 11, 17, 18, 19, 20, 21, 22, 23, 24, 25, 26] (by decide +kernel) (by decide +kernel)
set_option maxRecDepth 20000 in
theorem gX11_differs_X11_noOffset : GoodIn wsX11_differs (wsV RX11 269 RX11 yX11_noOffset wsX11_noOffset) := goodIn_app (goodIn_of _ (by decide +kernel)) ggX11_differs_X11_noOffset
set_option maxRecDepth 20000 in
theorem ggX11_differs_X11_beside : GoodIn wsX11_differs wsX11_beside := goodIn_r _ [15, 16, 9, 10, 5, 11, 17, 18, 19, 20, 21, 22, 23, 24, 25, 26] (by decide +kernel) (by decide +kernel)
set_option maxRecDepth 20000 in
theorem gX11_differs_X11_beside : GoodIn wsX11_differs (wsV RX11 272 RX11 yX11_beside wsX11_beside) := goodIn_app (goodIn_of _ (by decide +kernel)) ggX11_differs_X11_beside
set_option maxRecDepth 20000 in
theorem ggX11_best_X11_in : GoodIn wsX11_best wsX11_in := goodIn_r _ [7] (by decide +kernel) (by decide +kernel)
set_option maxRecDepth 20000 in
theorem gX11_best_X11_in : GoodIn wsX11_best (va_wsS RX11 49 yX11_in wsX11_in) := goodIn_app (goodIn_of _ (by decide +kernel)) ggX11_best_X11_in
set_option maxRecDepth 20000 in
theorem ggX11_best_X11_beside : GoodIn wsX11_best wsX11_beside := goodIn_r _ [11, 2, 4, 5, 6, 7, 12, 13, 14, 15, 16, 17, 18, 19, 20, 21] (by decide +kernel) (by decide +kernel)
set_option maxRecDepth 20000 in
theorem gX11_best_X11_beside : GoodIn wsX11_best (wsV RX11 272 RX11 yX11_beside wsX11_beside) := goodIn_app (goodIn_of _ (by decide +kernel)) ggX11_best_X11_beside
set_option maxRecDepth 20000 in
theorem ggX11_flips_X11_many : GoodIn wsX11_flips wsX11_many := goodIn_r _ [6, 7, 8, 9, 10, 11, 12, 13, 14, 15, 16, 17] (by decide +kernel) (by decide +kernel)
set_option maxRecDepth 20000 in
theorem gX11_flips_X11_many : GoodIn wsX11_flips (wsV RX11 62 RX11 yX11_many wsX11_many) := goodIn_app (goodIn_of _ (by decide +kernel)) ggX11_flips_X11_many
set_option maxRecDepth 20000 in
theorem ggX11_checksum_Jx4a65c_iterator_32c93 : GoodIn wsX11_checksum wsJx4a65c_iterator_32c93 := goodIn_r _ [11, 12, 13, 14, 15, 16, 17, 18, 19, 20, 21, 22, 23, 24, 25, 55, 56, 57, 58, 59, 60, 61] (by decide +kernel) (by decide +kernel)
set_option maxRecDepth 20000 in
theorem gX11_checksum_Jx4a65c_iterator_32c93 : GoodIn wsX11_checksum (wsV RX11 216 RJx4a65c yJx4a65c_iterator_32c93 wsJx4a65c_iterator_32c93) := goodIn_app (goodIn_of _ (by decide +kernel)) ggX11_checksum_Jx4a65c_iterator_32c93
set_option maxRecDepth 20000 in
theorem ggX11_checksum_Jx35411_hasNext_aae02 : GoodIn wsX11_checksum wsJx35411_hasNext_aae02 := goodIn_r _ [29, 30, 18, 55, 56, 57, 58, 59, 60, 61] (by decide +kernel) (by decide +kernel)
set_option maxRecDepth 20000 in
theorem gX11_checksum_Jx35411_hasNext_aae02_f220Jx35411 : GoodIn wsX11_checksum (va_wsF RX11 220 RJx35411 ⟨"java/util/Iterator", "hasNext", "()Z"⟩ yJx35411_hasNext_aae02 wsJx35411_hasNext_aae02) := goodIn_app (goodIn_of _ (by decide +kernel)) ggX11_checksum_Jx35411_hasNext_aae02
set_option maxRecDepth 20000 in
theorem ggX11_checksum_Jx35411_next_0502b : GoodIn wsX11_checksum wsJx35411_next_0502b := goodIn_r _ [34, 30, 18, 35, 22, 36, 37, 38, 14, 39, 23, 24, 25, 55, 56, 57, 58, 59, 60, 61] (by decide +kernel) (by decide +kernel)
set_option maxRecDepth 20000 in
theorem gX11_checksum_Jx35411_next_0502b_f225Jx35411 : GoodIn wsX11_checksum (va_wsF RX11 225 RJx35411 ⟨"java/util/Iterator", "next", "()Ljava/lang/Object;"⟩ yJx35411_next_0502b wsJx35411_next_0502b) := goodIn_app (goodIn_of _ (by decide +kernel)) ggX11_checksum_Jx35411_next_0502b
set_option maxRecDepth 20000 in
theorem ggX11_noSamples_X11_noRow : GoodIn wsX11_noSamples wsX11_noRow := goodIn_r _ [7, 2, 8, 9, 6, 10, 11, 12, 13, 14, 15, 16, 17, 18, 19, 20, 21, 22, 23, 24] (by decide +kernel) (by decide +kernel)
set_option maxRecDepth 20000 in
theorem gX11_noSamples_X11_noRow : GoodIn wsX11_noSamples (wsV RX11 163 RX11 yX11_noRow wsX11_noRow) := goodIn_app (goodIn_of _ (by decide +kernel)) ggX11_noSamples_X11_noRow
set_option maxRecDepth 20000 in
theorem ggX11_highShare_X11_noSamples : GoodIn wsX11_highShare wsX11_noSamples := goodIn_r _ [6, 1, 7, 8, 9, 10, 5, 11, 12, 13, 14, 15, 16, 17, 18, 23, 24, 25, 26, 27, 28, 29, 30, 31, 32] (by decide +kernel) (by decide +kernel)
set_option maxRecDepth 20000 in
theorem gX11_highShare_X11_noSamples : GoodIn wsX11_highShare (wsV RX11 280 RX11 yX11_noSamples wsX11_noSamples) := goodIn_app (goodIn_of _ (by decide +kernel)) ggX11_highShare_X11_noSamples
set_option maxRecDepth 20000 in
theorem ggX11_highShare_X11_isHigh : GoodIn wsX11_highShare wsX11_isHigh := goodIn_r _ [22, 1, 23, 24, 25, 26, 27, 28, 29, 30, 31, 32] (by decide +kernel) (by decide +kernel)
set_option maxRecDepth 20000 in
theorem gX11_highShare_X11_isHigh : GoodIn wsX11_highShare (wsV RX11 133 RX11 yX11_isHigh wsX11_isHigh) := goodIn_app (goodIn_of _ (by decide +kernel)) ggX11_highShare_X11_isHigh
set_option maxRecDepth 20000 in
theorem ggX11_meanRun_X11_noSamples : GoodIn wsX11_meanRun wsX11_noSamples := goodIn_r _ [6, 1, 7, 8, 9, 10, 5, 11, 12, 13, 14, 15, 16, 17, 18, 150, 151, 152, 153, 154, 155, 156, 157, 158, 159] (by decide +kernel) (by decide +kernel)
set_option maxRecDepth 20000 in
theorem gX11_meanRun_X11_noSamples : GoodIn wsX11_meanRun (wsV RX11 280 RX11 yX11_noSamples wsX11_noSamples) := goodIn_app (goodIn_of _ (by decide +kernel)) ggX11_meanRun_X11_noSamples
set_option maxRecDepth 20000 in
theorem ggX11_meanRun_X11_runsOf : GoodIn wsX11_meanRun wsX11_runsOf := goodIn_r _ [22, 23, 24, 25, 1, 26, 27, 28, 29, 30, 31, 32, 33, 34, 35, 36, 37, 38, 39, 40, 41, 42, 43, 44, 45, 46, 5, 47, 48, 49, 50, 51, 52, 53, 54, 55, 56, 57, 58, 59, 60, 61, 62, 63, 64, 65, 66, 67, 68, 69, 70, 71, 72, 73, 74, 75, 76, 77, 78, 79, 80, 81, 82, 83, 84, 85, 86, 87, 88, 89, 90, 91, 92, 93, 94, 95, 96, 97, 98, 99, 100, 101, 102, 103, 104, 105, 106, 107, 108, 109, 110, 111, 112, 113, 114, 115, 116, 117, 118, 119, 120, 121, 122, 123, 124, 125, 126, 127, 128, 129, 130, 131, 132, 133, 134, 135, 136, 137, 138, 139, 140, 141, 142, 143, 144, 145, 146, 147, 148, 149, 160, 161, 162, 150, 151, 152, 153, 154, 155, 156, 157, 158, 159, 163] (by decide +kernel) (by decide +kernel)
set_option maxRecDepth 20000 in
theorem gX11_meanRun_X11_runsOf : GoodIn wsX11_meanRun (wsV RX11 166 RX11 yX11_runsOf wsX11_runsOf) := goodIn_app (goodIn_of _ (by decide +kernel)) ggX11_meanRun_X11_runsOf
set_option maxRecDepth 20000 in
theorem ggX11_meanRun_Jx4a65c_size_8abf5 : GoodIn wsX11_meanRun wsJx4a65c_size_8abf5 := goodIn_r _ [125, 75, 160, 161, 162] (by decide +kernel) (by decide +kernel)
set_option maxRecDepth 20000 in
theorem gX11_meanRun_Jx4a65c_size_8abf5 : GoodIn wsX11_meanRun (wsV RX11 148 RJx4a65c yJx4a65c_size_8abf5 wsJx4a65c_size_8abf5) := goodIn_app (goodIn_of _ (by decide +kernel)) ggX11_meanRun_Jx4a65c_size_8abf5
set_option maxRecDepth 20000 in
theorem ggJ6_valueOf_2dffe_J6_init_d00df : GoodIn wsJ6_valueOf_2dffe wsJ6_init_d00df := goodIn_r _ [8, 9, 10, 11, 12, 13, 14, 15, 16, 17] (by decide +kernel) (by decide +kernel)
set_option maxRecDepth 20000 in
theorem gJ6_valueOf_2dffe_J6_init_d00df : GoodIn wsJ6_valueOf_2dffe (wsJ6_init_d00df) := ggJ6_valueOf_2dffe_J6_init_d00df
set_option maxRecDepth 20000 in
theorem ggJ6_init_d00df_Jxd2413_init_da8c8 : GoodIn wsJ6_init_d00df wsJxd2413_init_da8c8 := goodIn_r _ [5, 6, 7, 8] (by decide +kernel) (by decide +kernel)
set_option maxRecDepth 20000 in
theorem gJ6_init_d00df_Jxd2413_init_da8c8 : GoodIn wsJ6_init_d00df (wsJxd2413_init_da8c8) := ggJ6_init_d00df_Jxd2413_init_da8c8
set_option maxRecDepth 20000 in
theorem ggJ0_length_8abf5_J0_coder_7d493 : GoodIn wsJ0_length_8abf5 wsJ0_coder_7d493 := goodIn_r _ [6, 7, 8] (by decide +kernel) (by decide +kernel)
set_option maxRecDepth 20000 in
theorem gJ0_length_8abf5_J0_coder_7d493 : GoodIn wsJ0_length_8abf5 (wsV RJ0 335 RJ0 yJ0_coder_7d493 wsJ0_coder_7d493) := goodIn_app (goodIn_of _ (by decide +kernel)) ggJ0_length_8abf5_J0_coder_7d493
set_option maxRecDepth 20000 in
theorem ggJ0_indexOf_0f7a4_J0_indexOf_7cf53 : GoodIn wsJ0_indexOf_0f7a4 wsJ0_indexOf_7cf53 := goodIn_r _ [5, 6, 7, 8, 9, 4, 10, 11, 12, 13, 14, 15, 16, 17, 18, 19, 20, 21, 22, 23, 24, 25, 26, 27, 28, 29, 30, 31, 32, 33, 34, 35, 36, 37, 38, 39, 40, 41, 42, 43, 44, 45, 46, 47, 48, 49, 50, 51, 52, 53, 54, 55, 56, 57, 58, 59, 60, 61, 62, 63, 64, 65, 66, 67, 68, 69, 70, 71, 72, 73, 74, 75, 76, 77, 78, 79, 80, 81, 82, 83, 84, 85] (by decide +kernel) (by decide +kernel)
set_option maxRecDepth 20000 in
theorem gJ0_indexOf_0f7a4_J0_indexOf_7cf53 : GoodIn wsJ0_indexOf_0f7a4 (wsV RJ0 633 RJ0 yJ0_indexOf_7cf53 wsJ0_indexOf_7cf53) := goodIn_app (goodIn_of _ (by decide +kernel)) ggJ0_indexOf_0f7a4_J0_indexOf_7cf53
set_option maxRecDepth 20000 in
theorem ggJ0_indexOf_7cf53_J0_isLatin1_aae02 : GoodIn wsJ0_indexOf_7cf53 wsJ0_isLatin1_aae02 := goodIn_r _ [6, 7, 8] (by decide +kernel) (by decide +kernel)
set_option maxRecDepth 20000 in
theorem gJ0_indexOf_7cf53_J0_isLatin1_aae02 : GoodIn wsJ0_indexOf_7cf53 (wsV RJ0 492 RJ0 yJ0_isLatin1_aae02 wsJ0_isLatin1_aae02) := goodIn_app (goodIn_of _ (by decide +kernel)) ggJ0_indexOf_7cf53_J0_isLatin1_aae02
set_option maxRecDepth 20000 in
theorem ggJ0_indexOf_7cf53_J0_length_8abf5 : GoodIn wsJ0_indexOf_7cf53 wsJ0_length_8abf5 := goodIn_r _ [12, 1, 13, 14, 15, 5, 16, 7, 8] (by decide +kernel) (by decide +kernel)
set_option maxRecDepth 20000 in
theorem gJ0_indexOf_7cf53_J0_length_8abf5 : GoodIn wsJ0_indexOf_7cf53 (wsV RJ0 505 RJ0 yJ0_length_8abf5 wsJ0_length_8abf5) := goodIn_app (goodIn_of _ (by decide +kernel)) ggJ0_indexOf_7cf53_J0_length_8abf5
set_option maxRecDepth 20000 in
theorem ggJ0_indexOf_7cf53_J1_indexOf_4cfef : GoodIn wsJ0_indexOf_7cf53 wsJ1_indexOf_4cfef := goodIn_r _ [20, 21, 22, 23, 24, 25, 26, 27, 28, 29, 19, 30, 31, 32, 33] (by decide +kernel) (by decide +kernel)
set_option maxRecDepth 20000 in
theorem gJ0_indexOf_7cf53_J1_indexOf_4cfef : GoodIn wsJ0_indexOf_7cf53 (va_wsS RJ0 637 yJ1_indexOf_4cfef wsJ1_indexOf_4cfef) := goodIn_app (goodIn_of _ (by decide +kernel)) ggJ0_indexOf_7cf53_J1_indexOf_4cfef
set_option maxRecDepth 20000 in
theorem ggJ0_indexOf_7cf53_J2_indexOf_4cfef : GoodIn wsJ0_indexOf_7cf53 wsJ2_indexOf_4cfef := goodIn_r _ [37, 38, 22, 23, 24, 39, 26, 27, 40, 41, 42, 36, 43, 44, 45, 46, 47, 48, 49, 50, 51, 5, 52, 53, 54, 55, 56, 57, 58, 59, 60, 61, 62, 63, 64, 65, 66, 67, 68, 69, 70, 71, 72, 73, 74, 75, 76, 77, 78, 79, 80, 81] (by decide +kernel) (by decide +kernel)
set_option maxRecDepth 20000 in
theorem gJ0_indexOf_7cf53_J2_indexOf_4cfef : GoodIn wsJ0_indexOf_7cf53 (va_wsS RJ0 640 yJ2_indexOf_4cfef wsJ2_indexOf_4cfef) := goodIn_app (goodIn_of _ (by decide +kernel)) ggJ0_indexOf_7cf53_J2_indexOf_4cfef
set_option maxRecDepth 20000 in
theorem ggJ0_checkBoundsBeginEnd_23922_J3_checkFromToIndex_8c36e : GoodIn wsJ0_checkBoundsBeginEnd_23922 wsJ3_checkFromToIndex_8c36e := goodIn_r _ [5] (by decide +kernel) (by decide +kernel)
set_option maxRecDepth 20000 in
theorem gJ0_checkBoundsBeginEnd_23922_J3_checkFromToIndex_8c36e : GoodIn wsJ0_checkBoundsBeginEnd_23922 (va_wsS RJ0 1062 yJ3_checkFromToIndex_8c36e wsJ3_checkFromToIndex_8c36e) := goodIn_app (goodIn_of _ (by decide +kernel)) ggJ0_checkBoundsBeginEnd_23922_J3_checkFromToIndex_8c36e
set_option maxRecDepth 20000 in
theorem ggJ1_indexOf_4cfef_J1_canEncode_9a6ad : GoodIn wsJ1_indexOf_4cfef wsJ1_canEncode_9a6ad := goodIn_r _ [11] (by decide +kernel) (by decide +kernel)
set_option maxRecDepth 20000 in
theorem gJ1_indexOf_4cfef_J1_canEncode_9a6ad : GoodIn wsJ1_indexOf_4cfef (va_wsS RJ1 88 yJ1_canEncode_9a6ad wsJ1_canEncode_9a6ad) := goodIn_app (goodIn_of _ (by decide +kernel)) ggJ1_indexOf_4cfef_J1_canEncode_9a6ad
set_option maxRecDepth 20000 in
theorem ggJ1_indexOf_4cfef_J1_indexOfChar_4cfef : GoodIn wsJ1_indexOf_4cfef wsJ1_indexOfChar_4cfef := goodIn_r _ [14] (by decide +kernel) (by decide +kernel)
set_option maxRecDepth 20000 in
theorem gJ1_indexOf_4cfef_J1_indexOfChar_4cfef : GoodIn wsJ1_indexOf_4cfef (va_wsS RJ1 95 yJ1_indexOfChar_4cfef wsJ1_indexOfChar_4cfef) := goodIn_app (goodIn_of _ (by decide +kernel)) ggJ1_indexOf_4cfef_J1_indexOfChar_4cfef
set_option maxRecDepth 20000 in
theorem ggJ2_getChar_3b067_J2_length_9d52b : GoodIn wsJ2_getChar_3b067 wsJ2_length_9d52b := goodIn_r _ [7] (by decide +kernel) (by decide +kernel)
set_option maxRecDepth 20000 in
theorem gJ2_getChar_3b067_J2_length_9d52b : GoodIn wsJ2_getChar_3b067 (va_wsS RJ2 48 yJ2_length_9d52b wsJ2_length_9d52b) := goodIn_app (goodIn_of _ (by decide +kernel)) ggJ2_getChar_3b067_J2_length_9d52b
set_option maxRecDepth 20000 in
theorem ggJ2_indexOf_4cfef_J2_indexOfChar_4cfef : GoodIn wsJ2_indexOf_4cfef wsJ2_indexOfChar_4cfef := goodIn_r _ [12, 13, 14, 11, 15, 16, 17, 18, 19, 20, 21, 22, 23, 24, 25, 26, 27, 28, 29, 30, 31, 32, 33, 34, 35, 36] (by decide +kernel) (by decide +kernel)
set_option maxRecDepth 20000 in
theorem gJ2_indexOf_4cfef_J2_indexOfChar_4cfef : GoodIn wsJ2_indexOf_4cfef (va_wsS RJ2 228 yJ2_indexOfChar_4cfef wsJ2_indexOfChar_4cfef) := goodIn_app (goodIn_of _ (by decide +kernel)) ggJ2_indexOf_4cfef_J2_indexOfChar_4cfef
set_option maxRecDepth 20000 in
theorem ggJ2_indexOf_4cfef_J2_indexOfSupplementary_4cfef : GoodIn wsJ2_indexOf_4cfef wsJ2_indexOfSupplementary_4cfef := goodIn_r _ [39, 40, 41, 42, 43, 44, 45, 46, 47, 48, 49, 50, 51, 13, 14, 11, 15, 16, 17, 18, 19, 20, 21, 22, 23, 24, 25, 26, 27, 31, 32, 33, 34, 35, 36] (by decide +kernel) (by decide +kernel)
set_option maxRecDepth 20000 in
theorem gJ2_indexOf_4cfef_J2_indexOfSupplementary_4cfef : GoodIn wsJ2_indexOf_4cfef (va_wsS RJ2 232 yJ2_indexOfSupplementary_4cfef wsJ2_indexOfSupplementary_4cfef) := goodIn_app (goodIn_of _ (by decide +kernel)) ggJ2_indexOf_4cfef_J2_indexOfSupplementary_4cfef
set_option maxRecDepth 20000 in
theorem ggJ2_indexOfChar_4cfef_J2_checkBoundsBeginEnd_d044e : GoodIn wsJ2_indexOfChar_4cfef wsJ2_checkBoundsBeginEnd_d044e := goodIn_r _ [4, 5, 6, 3, 7, 8, 9, 10, 11, 12, 13, 14, 15, 16] (by decide +kernel) (by decide +kernel)
set_option maxRecDepth 20000 in
theorem gJ2_indexOfChar_4cfef_J2_checkBoundsBeginEnd_d044e : GoodIn wsJ2_indexOfChar_4cfef (va_wsS RJ2 96 yJ2_checkBoundsBeginEnd_d044e wsJ2_checkBoundsBeginEnd_d044e) := goodIn_app (goodIn_of _ (by decide +kernel)) ggJ2_indexOfChar_4cfef_J2_checkBoundsBeginEnd_d044e
set_option maxRecDepth 20000 in
theorem ggJ2_indexOfChar_4cfef_J2_indexOfCharUnsafe_4cfef : GoodIn wsJ2_indexOfChar_4cfef wsJ2_indexOfCharUnsafe_4cfef := goodIn_r _ [19, 20, 21, 3, 22, 23, 24, 25, 5, 6, 7] (by decide +kernel) (by decide +kernel)
set_option maxRecDepth 20000 in
theorem gJ2_indexOfChar_4cfef_J2_indexOfCharUnsafe_4cfef : GoodIn wsJ2_indexOfChar_4cfef (va_wsS RJ2 244 yJ2_indexOfCharUnsafe_4cfef wsJ2_indexOfCharUnsafe_4cfef) := goodIn_app (goodIn_of _ (by decide +kernel)) ggJ2_indexOfChar_4cfef_J2_indexOfCharUnsafe_4cfef
set_option maxRecDepth 20000 in
theorem ggJ2_indexOfCharUnsafe_4cfef_J2_getChar_3b067 : GoodIn wsJ2_indexOfCharUnsafe_4cfef wsJ2_getChar_3b067 := goodIn_r _ [4, 5, 6, 7, 8, 9, 3, 10] (by decide +kernel) (by decide +kernel)
set_option maxRecDepth 20000 in
theorem gJ2_indexOfCharUnsafe_4cfef_J2_getChar_3b067 : GoodIn wsJ2_indexOfCharUnsafe_4cfef (va_wsS RJ2 71 yJ2_getChar_3b067 wsJ2_getChar_3b067) := goodIn_app (goodIn_of _ (by decide +kernel)) ggJ2_indexOfCharUnsafe_4cfef_J2_getChar_3b067
set_option maxRecDepth 20000 in
theorem ggJ2_indexOfSupplementary_4cfef_J11_isValidCodePoint_9a6ad : GoodIn wsJ2_indexOfSupplementary_4cfef wsJ11_isValidCodePoint_9a6ad := goodIn_r _ [4] (by decide +kernel) (by decide +kernel)
set_option maxRecDepth 20000 in
theorem gJ2_indexOfSupplementary_4cfef_J11_isValidCodePoint_9a6ad : GoodIn wsJ2_indexOfSupplementary_4cfef (va_wsS RJ2 164 yJ11_isValidCodePoint_9a6ad wsJ11_isValidCodePoint_9a6ad) := goodIn_app (goodIn_of _ (by decide +kernel)) ggJ2_indexOfSupplementary_4cfef_J11_isValidCodePoint_9a6ad
set_option maxRecDepth 20000 in
theorem ggJ2_indexOfSupplementary_4cfef_J11_highSurrogate_5068e : GoodIn wsJ2_indexOfSupplementary_4cfef wsJ11_highSurrogate_5068e := goodIn_r _ [7, 8] (by decide +kernel) (by decide +kernel)
set_option maxRecDepth 20000 in
theorem gJ2_indexOfSupplementary_4cfef_J11_highSurrogate_5068e : GoodIn wsJ2_indexOfSupplementary_4cfef (va_wsS RJ2 157 yJ11_highSurrogate_5068e wsJ11_highSurrogate_5068e) := goodIn_app (goodIn_of _ (by decide +kernel)) ggJ2_indexOfSupplementary_4cfef_J11_highSurrogate_5068e
set_option maxRecDepth 20000 in
theorem ggJ2_indexOfSupplementary_4cfef_J11_lowSurrogate_5068e : GoodIn wsJ2_indexOfSupplementary_4cfef wsJ11_lowSurrogate_5068e := goodIn_r _ [11, 12] (by decide +kernel) (by decide +kernel)
set_option maxRecDepth 20000 in
theorem gJ2_indexOfSupplementary_4cfef_J11_lowSurrogate_5068e : GoodIn wsJ2_indexOfSupplementary_4cfef (va_wsS RJ2 161 yJ11_lowSurrogate_5068e wsJ11_lowSurrogate_5068e) := goodIn_app (goodIn_of _ (by decide +kernel)) ggJ2_indexOfSupplementary_4cfef_J11_lowSurrogate_5068e
set_option maxRecDepth 20000 in
theorem ggJ2_indexOfSupplementary_4cfef_J2_checkBoundsBeginEnd_d044e : GoodIn wsJ2_indexOfSupplementary_4cfef wsJ2_checkBoundsBeginEnd_d044e := goodIn_r _ [16, 17, 18, 15, 19, 20, 21, 22, 23, 24, 25, 26, 27, 28] (by decide +kernel) (by decide +kernel)
set_option maxRecDepth 20000 in
theorem gJ2_indexOfSupplementary_4cfef_J2_checkBoundsBeginEnd_d044e : GoodIn wsJ2_indexOfSupplementary_4cfef (va_wsS RJ2 96 yJ2_checkBoundsBeginEnd_d044e wsJ2_checkBoundsBeginEnd_d044e) := goodIn_app (goodIn_of _ (by decide +kernel)) ggJ2_indexOfSupplementary_4cfef_J2_checkBoundsBeginEnd_d044e
set_option maxRecDepth 20000 in
theorem ggJ2_indexOfSupplementary_4cfef_J2_getChar_3b067 : GoodIn wsJ2_indexOfSupplementary_4cfef wsJ2_getChar_3b067 := goodIn_r _ [31, 32, 33, 34, 17, 18, 15, 19] (by decide +kernel) (by decide +kernel)
set_option maxRecDepth 20000 in
theorem gJ2_indexOfSupplementary_4cfef_J2_getChar_3b067 : GoodIn wsJ2_indexOfSupplementary_4cfef (va_wsS RJ2 71 yJ2_getChar_3b067 wsJ2_getChar_3b067) := goodIn_app (goodIn_of _ (by decide +kernel)) ggJ2_indexOfSupplementary_4cfef_J2_getChar_3b067
set_option maxRecDepth 20000 in
theorem ggJ2_checkBoundsBeginEnd_d044e_J2_length_9d52b : GoodIn wsJ2_checkBoundsBeginEnd_d044e wsJ2_length_9d52b := goodIn_r _ [4] (by decide +kernel) (by decide +kernel)
set_option maxRecDepth 20000 in
theorem gJ2_checkBoundsBeginEnd_d044e_J2_length_9d52b : GoodIn wsJ2_checkBoundsBeginEnd_d044e (va_wsS RJ2 48 yJ2_length_9d52b wsJ2_length_9d52b) := goodIn_app (goodIn_of _ (by decide +kernel)) ggJ2_checkBoundsBeginEnd_d044e_J2_length_9d52b
set_option maxRecDepth 20000 in
theorem ggJ2_checkBoundsBeginEnd_d044e_J0_checkBoundsBeginEnd_23922 : GoodIn wsJ2_checkBoundsBeginEnd_d044e wsJ0_checkBoundsBeginEnd_23922 := goodIn_r _ [8, 9, 10, 11, 12, 13] (by decide +kernel) (by decide +kernel)
set_option maxRecDepth 20000 in
theorem gJ2_checkBoundsBeginEnd_d044e_J0_checkBoundsBeginEnd_23922 : GoodIn wsJ2_checkBoundsBeginEnd_d044e (va_wsS RJ2 241 yJ0_checkBoundsBeginEnd_23922 wsJ0_checkBoundsBeginEnd_23922) := goodIn_app (goodIn_of _ (by decide +kernel)) ggJ2_checkBoundsBeginEnd_d044e_J0_checkBoundsBeginEnd_23922
set_option maxRecDepth 20000 in
theorem ggJxc12de_init_da8c8_Jxa1e45_init_da8c8 : GoodIn wsJxc12de_init_da8c8 wsJxa1e45_init_da8c8 := goodIn_r _ [5, 6, 7, 8] (by decide +kernel) (by decide +kernel)
set_option maxRecDepth 20000 in
theorem gJxc12de_init_da8c8_Jxa1e45_init_da8c8 : GoodIn wsJxc12de_init_da8c8 (wsJxa1e45_init_da8c8) := ggJxc12de_init_da8c8_Jxa1e45_init_da8c8
set_option maxRecDepth 20000 in
theorem ggJx35411_next_0502b_Jx35411_checkForComodification_da8c8 : GoodIn wsJx35411_next_0502b wsJx35411_checkForComodification_da8c8 := goodIn_r _ [9, 2, 10, 11, 12, 13, 14, 15, 16, 17, 18, 19] (by decide +kernel) (by decide +kernel)
set_option maxRecDepth 20000 in
theorem gJx35411_next_0502b_Jx35411_checkForComodification_da8c8 : GoodIn wsJx35411_next_0502b (wsV RJx35411 31 RJx35411 yJx35411_checkForComodification_da8c8 wsJx35411_checkForComodification_da8c8) := goodIn_app (goodIn_of _ (by decide +kernel)) ggJx35411_next_0502b_Jx35411_checkForComodification_da8c8
set_option maxRecDepth 20000 in
theorem ggJx4a65c_init_da8c8_Jxc12de_init_da8c8 : GoodIn wsJx4a65c_init_da8c8 wsJxc12de_init_da8c8 := goodIn_r _ [6, 7, 8, 9, 10, 11, 12, 13, 14, 15, 16, 17] (by decide +kernel) (by decide +kernel)
set_option maxRecDepth 20000 in
theorem gJx4a65c_init_da8c8_Jxc12de_init_da8c8 : GoodIn wsJx4a65c_init_da8c8 (wsJxc12de_init_da8c8) := ggJx4a65c_init_da8c8_Jxc12de_init_da8c8
set_option maxRecDepth 20000 in
theorem ggJx4a65c_grow_92f84_J8_newLength_cabcc : GoodIn wsJx4a65c_grow_92f84 wsJ8_newLength_cabcc := goodIn_r _ [11, 12, 4, 5, 6, 13, 14, 15, 10, 16] (by decide +kernel) (by decide +kernel)
set_option maxRecDepth 20000 in
theorem gJx4a65c_grow_92f84_J8_newLength_cabcc : GoodIn wsJx4a65c_grow_92f84 (va_wsS RJx4a65c 73 yJ8_newLength_cabcc wsJ8_newLength_cabcc) := goodIn_app (goodIn_of _ (by decide +kernel)) ggJx4a65c_grow_92f84_J8_newLength_cabcc
set_option maxRecDepth 20000 in
theorem ggJx4a65c_grow_92f84_J7_copyOf_1904c : GoodIn wsJx4a65c_grow_92f84 wsJ7_copyOf_1904c := goodIn_r _ [20, 21, 22, 23, 24, 25, 26, 19, 27, 28, 29, 30, 31, 5, 32, 33, 34, 35, 36] (by decide +kernel) (by decide +kernel)
set_option maxRecDepth 20000 in
theorem gJx4a65c_grow_92f84_J7_copyOf_1904c : GoodIn wsJx4a65c_grow_92f84 (va_wsS RJx4a65c 66 yJ7_copyOf_1904c wsJ7_copyOf_1904c) := goodIn_app (goodIn_of _ (by decide +kernel)) ggJx4a65c_grow_92f84_J7_copyOf_1904c
set_option maxRecDepth 20000 in
theorem ggJx4a65c_grow_d5877_Jx4a65c_grow_92f84 : GoodIn wsJx4a65c_grow_d5877 wsJx4a65c_grow_92f84 := goodIn_r _ [6, 7, 8, 9, 10, 11, 12, 13, 14, 15, 16, 17, 18, 19, 20, 21, 22, 23, 24, 25, 26, 27, 28, 29, 30, 31, 32, 33, 34, 35, 36, 37, 38, 39, 40, 41, 42, 43, 44, 45] (by decide +kernel) (by decide +kernel)
set_option maxRecDepth 20000 in
theorem gJx4a65c_grow_d5877_Jx4a65c_grow_92f84 : GoodIn wsJx4a65c_grow_d5877 (wsV RJx4a65c 69 RJx4a65c yJx4a65c_grow_92f84 wsJx4a65c_grow_92f84) := goodIn_app (goodIn_of _ (by decide +kernel)) ggJx4a65c_grow_d5877_Jx4a65c_grow_92f84
set_option maxRecDepth 20000 in
theorem ggJx4a65c_get_915e3_J15_checkIndex_7cf53 : GoodIn wsJx4a65c_get_915e3 wsJ15_checkIndex_7cf53 := goodIn_r _ [5, 6, 7, 8, 9] (by decide +kernel) (by decide +kernel)
set_option maxRecDepth 20000 in
theorem gJx4a65c_get_915e3_J15_checkIndex_7cf53 : GoodIn wsJx4a65c_get_915e3 (va_wsS RJx4a65c 118 yJ15_checkIndex_7cf53 wsJ15_checkIndex_7cf53) := goodIn_app (goodIn_of _ (by decide +kernel)) ggJx4a65c_get_915e3_J15_checkIndex_7cf53
set_option maxRecDepth 20000 in
theorem ggJx4a65c_get_915e3_Jx4a65c_elementData_915e3 : GoodIn wsJx4a65c_get_915e3 wsJx4a65c_elementData_915e3 := goodIn_r _ [14, 15, 16, 17, 18] (by decide +kernel) (by decide +kernel)
set_option maxRecDepth 20000 in
theorem gJx4a65c_get_915e3_Jx4a65c_elementData_915e3 : GoodIn wsJx4a65c_get_915e3 (wsV RJx4a65c 123 RJx4a65c yJx4a65c_elementData_915e3 wsJx4a65c_elementData_915e3) := goodIn_app (goodIn_of _ (by decide +kernel)) ggJx4a65c_get_915e3_Jx4a65c_elementData_915e3
set_option maxRecDepth 20000 in
theorem ggJx4a65c_set_bcc79_J15_checkIndex_7cf53 : GoodIn wsJx4a65c_set_bcc79 wsJ15_checkIndex_7cf53 := goodIn_r _ [6, 7, 8, 9, 10] (by decide +kernel) (by decide +kernel)
set_option maxRecDepth 20000 in
theorem gJx4a65c_set_bcc79_J15_checkIndex_7cf53 : GoodIn wsJx4a65c_set_bcc79 (va_wsS RJx4a65c 118 yJ15_checkIndex_7cf53 wsJ15_checkIndex_7cf53) := goodIn_app (goodIn_of _ (by decide +kernel)) ggJx4a65c_set_bcc79_J15_checkIndex_7cf53
set_option maxRecDepth 20000 in
theorem ggJx4a65c_set_bcc79_Jx4a65c_elementData_915e3 : GoodIn wsJx4a65c_set_bcc79 wsJx4a65c_elementData_915e3 := goodIn_r _ [15, 2, 16, 17, 18] (by decide +kernel) (by decide +kernel)
set_option maxRecDepth 20000 in
theorem gJx4a65c_set_bcc79_Jx4a65c_elementData_915e3 : GoodIn wsJx4a65c_set_bcc79 (wsV RJx4a65c 123 RJx4a65c yJx4a65c_elementData_915e3 wsJx4a65c_elementData_915e3) := goodIn_app (goodIn_of _ (by decide +kernel)) ggJx4a65c_set_bcc79_Jx4a65c_elementData_915e3
set_option maxRecDepth 20000 in
theorem ggJx4a65c_add_72be8_Jx4a65c_grow_d5877 : GoodIn wsJx4a65c_add_72be8 wsJx4a65c_grow_d5877 := goodIn_r _ [6, 1, 7, 8, 9, 5, 10, 11, 12, 13, 14, 15, 16, 17, 18, 19, 20, 21, 22, 23, 24, 25, 26, 27, 28, 29, 30, 31, 32, 33, 34, 35, 36, 37, 38, 39, 40, 41, 42, 43, 44, 45, 46, 47, 48, 49] (by decide +kernel) (by decide +kernel)
set_option maxRecDepth 20000 in
theorem gJx4a65c_add_72be8_Jx4a65c_grow_d5877 : GoodIn wsJx4a65c_add_72be8 (wsV RJx4a65c 129 RJx4a65c yJx4a65c_grow_d5877 wsJx4a65c_grow_d5877) := goodIn_app (goodIn_of _ (by decide +kernel)) ggJx4a65c_add_72be8_Jx4a65c_grow_d5877
set_option maxRecDepth 20000 in
theorem ggJx4a65c_add_9ea2d_Jx4a65c_add_72be8 : GoodIn wsJx4a65c_add_9ea2d wsJx4a65c_add_72be8 := goodIn_r _ [9, 4, 10, 11, 12, 8, 13, 14, 15, 16, 17, 3, 18, 19, 20, 21, 22, 23, 24, 25, 26, 27, 28, 29, 30, 31, 32, 33, 34, 35, 36, 37, 38, 39, 40, 41, 42, 43, 44, 45, 46, 47, 48, 49, 50, 51, 52, 53, 54, 55] (by decide +kernel) (by decide +kernel)
set_option maxRecDepth 20000 in
theorem gJx4a65c_add_9ea2d_Jx4a65c_add_72be8 : GoodIn wsJx4a65c_add_9ea2d (wsV RJx4a65c 131 RJx4a65c yJx4a65c_add_72be8 wsJx4a65c_add_72be8) := goodIn_app (goodIn_of _ (by decide +kernel)) ggJx4a65c_add_9ea2d_Jx4a65c_add_72be8
set_option maxRecDepth 20000 in
theorem ggJx4a65c_iterator_32c93_Jx35411_init_45d68 : GoodIn wsJx4a65c_iterator_32c93 wsJx35411_init_45d68 := goodIn_r _ [6, 7, 8, 9, 10, 11, 12, 13, 14, 15, 16, 17, 18, 19, 20, 21] (by decide +kernel) (by decide +kernel)
set_option maxRecDepth 20000 in
theorem gJx4a65c_iterator_32c93_Jx35411_init_45d68 : GoodIn wsJx4a65c_iterator_32c93 (wsJx35411_init_45d68) := ggJx4a65c_iterator_32c93_Jx35411_init_45d68
set_option maxRecDepth 20000 in
theorem ggJ7_copyOf_1904c_J7_copyOf_6403c : GoodIn wsJ7_copyOf_1904c wsJ7_copyOf_6403c := goodIn_r _ [8, 9, 10, 11, 12, 13, 14, 15, 16, 17, 18] (by decide +kernel) (by decide +kernel)
set_option maxRecDepth 20000 in
theorem gJ7_copyOf_1904c_J7_copyOf_6403c : GoodIn wsJ7_copyOf_1904c (va_wsS RJ7 300 yJ7_copyOf_6403c wsJ7_copyOf_6403c) := goodIn_app (goodIn_of _ (by decide +kernel)) ggJ7_copyOf_1904c_J7_copyOf_6403c
set_option maxRecDepth 20000 in
theorem ggJ15_checkIndex_7cf53_J3_checkIndex_8e157 : GoodIn wsJ15_checkIndex_7cf53 wsJ3_checkIndex_8e157 := goodIn_r _ [4] (by decide +kernel) (by decide +kernel)
set_option maxRecDepth 20000 in
theorem gJ15_checkIndex_7cf53_J3_checkIndex_8e157 : GoodIn wsJ15_checkIndex_7cf53 (va_wsS RJ15 105 yJ3_checkIndex_8e157 wsJ3_checkIndex_8e157) := goodIn_app (goodIn_of _ (by decide +kernel)) ggJ15_checkIndex_7cf53_J3_checkIndex_8e157
set_option maxRecDepth 20000 in
theorem ggJ8_newLength_cabcc_J8_hugeLength_7cf53 : GoodIn wsJ8_newLength_cabcc wsJ8_hugeLength_7cf53 := goodIn_r _ [9, 5] (by decide +kernel) (by decide +kernel)
set_option maxRecDepth 20000 in
theorem gJ8_newLength_cabcc_J8_hugeLength_7cf53 : GoodIn wsJ8_newLength_cabcc (va_wsS RJ8 201 yJ8_hugeLength_7cf53 wsJ8_hugeLength_7cf53) := goodIn_app (goodIn_of _ (by decide +kernel)) ggJ8_newLength_cabcc_J8_hugeLength_7cf53
set_option maxRecDepth 20000 in
theorem ggL_idle_X7_idle : GoodIn wsL_idle wsX7_idle := goodIn_ca (goodIn_r _ [6, 7, 8, 9, 10, 5, 11, 12, 13, 14, 15, 16, 17, 18, 19, 20, 21, 22, 23, 24, 25, 26, 27] (by decide +kernel) (by decide +kernel)) (goodIn_sub (fun _ h => List.mem_cons_of_mem _ (List.mem_append_right _ h)) (by decide +kernel))
set_option maxRecDepth 20000 in
theorem gL_idle_X7_idle : GoodIn wsL_idle (wsV RL 7 RX7 yX7_idle wsX7_idle) := goodIn_app (goodIn_of _ (by decide +kernel)) ggL_idle_X7_idle
set_option maxRecDepth 20000 in
theorem ggL_flip_X7_flip : GoodIn wsL_flip wsX7_flip := goodIn_ca (goodIn_ca (goodIn_ca (goodIn_r _ [8, 9, 10, 11, 12, 7, 13, 14, 15, 16, 17, 18, 19, 20, 21, 22, 23, 24, 25, 26, 27, 28, 29, 30, 31, 32, 33, 34, 35, 36, 37, 38, 39, 40, 41, 42, 43, 44, 45, 46, 47, 48, 49, 50, 51, 52, 53, 54, 55, 56, 57, 58, 59, 60, 61, 62, 63, 64, 65, 66, 67, 68, 69, 70, 71, 72, 73, 74, 75, 76, 77, 78, 79, 80, 81] (by decide +kernel) (by decide +kernel)) (goodIn_sub (fun _ h => List.mem_cons_of_mem _ (List.mem_append_left _ (List.mem_append_left _ (List.mem_append_right _ h)))) (by decide +kernel))) (goodIn_sub (fun _ h => List.mem_cons_of_mem _ (List.mem_append_left _ (List.mem_append_right _ h))) (by decide +kernel))) (goodIn_sub (fun _ h => List.mem_cons_of_mem _ (List.mem_append_right _ h)) (by decide +kernel))
set_option maxRecDepth 20000 in
theorem gL_flip_X7_flip : GoodIn wsL_flip (wsV RL 15 RX7 yX7_flip wsX7_flip) := goodIn_app (goodIn_of _ (by decide +kernel)) ggL_flip_X7_flip
set_option maxRecDepth 20000 in
theorem ggL_level_X7_level : GoodIn wsL_level wsX7_level := goodIn_ca (goodIn_ca (goodIn_r _ [7, 8, 9, 10, 6, 11, 12, 13, 14, 15, 16, 17, 18, 19, 20, 21, 22, 23, 24, 25, 26, 27, 28, 29, 30, 31, 32, 33, 34, 35, 36, 37, 38, 39, 40, 41, 42, 43, 44] (by decide +kernel) (by decide +kernel)) (goodIn_sub (fun _ h => List.mem_cons_of_mem _ (List.mem_append_left _ (List.mem_append_right _ h))) (by decide +kernel))) (goodIn_sub (fun _ h => List.mem_cons_of_mem _ (List.mem_append_right _ h)) (by decide +kernel))
set_option maxRecDepth 20000 in
theorem gL_level_X7_level : GoodIn wsL_level (wsV RL 23 RX7 yX7_level wsX7_level) := goodIn_app (goodIn_of _ (by decide +kernel)) ggL_level_X7_level
set_option maxRecDepth 20000 in
theorem ggL_glitch_X7_glitch : GoodIn wsL_glitch wsX7_glitch := goodIn_ca (goodIn_ca (goodIn_ca (goodIn_r _ [8, 9, 10, 11, 12, 7, 13, 14, 15, 16, 17, 18, 19, 20, 21, 22, 23, 24, 25, 26, 27, 28, 29, 30, 31, 32, 33, 34, 35, 36, 37, 38, 39, 40, 41, 42, 43, 44, 45, 46, 47, 48, 49, 50, 51, 52, 53, 54, 55, 56, 57, 58, 59, 60, 61, 62, 63, 64, 65, 66, 67, 68, 69, 70, 71, 72, 73, 74, 75, 76, 77, 78, 79, 80, 81] (by decide +kernel) (by decide +kernel)) (goodIn_sub (fun _ h => List.mem_cons_of_mem _ (List.mem_append_left _ (List.mem_append_left _ (List.mem_append_right _ h)))) (by decide +kernel))) (goodIn_sub (fun _ h => List.mem_cons_of_mem _ (List.mem_append_left _ (List.mem_append_right _ h))) (by decide +kernel))) (goodIn_sub (fun _ h => List.mem_cons_of_mem _ (List.mem_append_right _ h)) (by decide +kernel))
set_option maxRecDepth 20000 in
theorem gL_glitch_X7_glitch : GoodIn wsL_glitch (wsV RL 27 RX7 yX7_glitch wsX7_glitch) := goodIn_app (goodIn_of _ (by decide +kernel)) ggL_glitch_X7_glitch
set_option maxRecDepth 20000 in
theorem ggL_drift_X7_drift : GoodIn wsL_drift wsX7_drift := goodIn_ca (goodIn_r _ [6, 7, 8, 9, 5, 10, 11, 12, 13, 14, 15, 16, 17, 18, 19, 20] (by decide +kernel) (by decide +kernel)) (goodIn_sub (fun _ h => List.mem_cons_of_mem _ (List.mem_append_right _ h)) (by decide +kernel))
set_option maxRecDepth 20000 in
theorem gL_drift_X7_drift : GoodIn wsL_drift (wsV RL 31 RX7 yX7_drift wsX7_drift) := goodIn_app (goodIn_of _ (by decide +kernel)) ggL_drift_X7_drift
set_option maxRecDepth 20000 in
theorem ggL_serial_X7_serial : GoodIn wsL_serial wsX7_serial := goodIn_ca (goodIn_ca (goodIn_ca (goodIn_r _ [8, 9, 10, 11, 7, 12, 13, 14, 15, 16, 17, 18, 19, 20, 21, 22, 23, 24, 25, 26, 27, 28, 29, 30, 31, 32, 33, 34, 35, 36, 37, 38, 39, 40, 41, 42, 43, 44, 45, 46, 47, 48, 49, 50, 51, 52, 53, 54, 55, 56, 57, 58, 59, 60, 61, 62, 63, 64, 65, 66, 67, 68, 69, 70, 71, 72, 73, 74, 75, 76, 77, 78, 79, 80, 81, 82, 83, 84, 85, 86, 87, 88, 89, 90, 91, 92, 93, 94, 95, 96, 97, 98, 99, 100, 101, 102, 103, 104, 105, 106, 107, 108, 109, 110, 111] (by decide +kernel) (by decide +kernel)) (goodIn_sub (fun _ h => List.mem_cons_of_mem _ (List.mem_append_left _ (List.mem_append_left _ (List.mem_append_right _ h)))) (by decide +kernel))) (goodIn_sub (fun _ h => List.mem_cons_of_mem _ (List.mem_append_left _ (List.mem_append_right _ h))) (by decide +kernel))) (goodIn_sub (fun _ h => List.mem_cons_of_mem _ (List.mem_append_right _ h)) (by decide +kernel))
set_option maxRecDepth 20000 in
theorem gL_serial_X7_serial : GoodIn wsL_serial (wsV RL 35 RX7 yX7_serial wsX7_serial) := goodIn_app (goodIn_of _ (by decide +kernel)) ggL_serial_X7_serial
set_option maxRecDepth 20000 in
theorem ggL_twoWires_X7_twoWires : GoodIn wsL_twoWires wsX7_twoWires := goodIn_ca (goodIn_ca (goodIn_ca (goodIn_r _ [8, 9, 10, 11, 12, 13, 7, 14, 15, 16, 17, 18, 19, 20, 21, 22, 23, 24, 25, 26, 27, 28, 29, 30, 31, 32, 33, 34, 35, 36, 37, 38, 39, 40, 41, 42, 43, 44, 45, 46, 47, 48, 49, 50, 51, 52, 53, 54, 55, 56, 57, 58, 59, 60, 61, 62, 63, 64, 65, 66, 67, 68, 69, 70, 71, 72, 73, 74, 75, 76, 77, 78, 79, 80, 81, 82, 83, 84, 85, 86, 87, 88, 89, 90, 91, 92, 93, 94, 95, 96, 97, 98, 99, 100, 101, 102, 103, 104] (by decide +kernel) (by decide +kernel)) (goodIn_sub (fun _ h => List.mem_cons_of_mem _ (List.mem_append_left _ (List.mem_append_left _ (List.mem_append_right _ h)))) (by decide +kernel))) (goodIn_sub (fun _ h => List.mem_cons_of_mem _ (List.mem_append_left _ (List.mem_append_right _ h))) (by decide +kernel))) (goodIn_sub (fun _ h => List.mem_cons_of_mem _ (List.mem_append_right _ h)) (by decide +kernel))
set_option maxRecDepth 20000 in
theorem gL_twoWires_X7_twoWires : GoodIn wsL_twoWires (wsV RL 39 RX7 yX7_twoWires wsX7_twoWires) := goodIn_app (goodIn_of _ (by decide +kernel)) ggL_twoWires_X7_twoWires
set_option maxRecDepth 20000 in
theorem ggL_fourWires_X7_fourWires : GoodIn wsL_fourWires wsX7_fourWires := goodIn_ca (goodIn_ca (goodIn_ca (goodIn_r _ [8, 9, 10, 11, 7, 12, 13, 14, 15, 16, 17, 18, 19, 20, 21, 22, 23, 24, 25, 26, 27, 28, 29, 30, 31, 32, 33, 34, 35, 36, 37, 38, 39, 40, 41, 42, 43, 44, 45, 46, 47, 48, 49, 50, 51, 52, 53, 54, 55, 56, 57, 58, 59, 60, 61, 62, 63, 64, 65, 66, 67, 68, 69, 70, 71, 72, 73, 74, 75, 76, 77, 78, 79, 80, 81, 82, 83, 84, 85, 86, 87, 88, 89, 90, 91, 92, 93, 94, 95, 96, 97, 98, 99, 100, 101, 102, 103, 104, 105, 106, 107, 108, 109] (by decide +kernel) (by decide +kernel)) (goodIn_sub (fun _ h => List.mem_cons_of_mem _ (List.mem_append_left _ (List.mem_append_left _ (List.mem_append_right _ h)))) (by decide +kernel))) (goodIn_sub (fun _ h => List.mem_cons_of_mem _ (List.mem_append_left _ (List.mem_append_right _ h))) (by decide +kernel))) (goodIn_sub (fun _ h => List.mem_cons_of_mem _ (List.mem_append_right _ h)) (by decide +kernel))
set_option maxRecDepth 20000 in
theorem gL_fourWires_X7_fourWires : GoodIn wsL_fourWires (wsV RL 43 RX7 yX7_fourWires wsX7_fourWires) := goodIn_app (goodIn_of _ (by decide +kernel)) ggL_fourWires_X7_fourWires
set_option maxRecDepth 20000 in
theorem ggL_capture_X7_capture : GoodIn wsL_capture wsX7_capture := goodIn_ca (goodIn_ca (goodIn_r _ [7, 8, 9, 10, 11, 6, 12, 13, 14, 15, 16, 17, 18, 19, 20, 21, 22, 23, 24, 25, 26, 27, 28, 29, 30, 31, 32, 33, 34, 35, 36, 37, 38, 39, 40, 41, 42, 43, 44, 45, 46, 47, 48, 49, 50, 51, 52, 53, 54, 55, 56, 57, 58, 59, 60, 61, 62, 63, 64, 65, 66, 67, 68, 69, 70, 71, 72, 73, 74, 75] (by decide +kernel) (by decide +kernel)) (goodIn_sub (fun _ h => List.mem_cons_of_mem _ (List.mem_append_left _ (List.mem_append_right _ h))) (by decide +kernel))) (goodIn_sub (fun _ h => List.mem_cons_of_mem _ (List.mem_append_right _ h)) (by decide +kernel))
set_option maxRecDepth 20000 in
theorem gL_capture_X7_capture : GoodIn wsL_capture (wsV RL 47 RX7 yX7_capture wsX7_capture) := goodIn_app (goodIn_of _ (by decide +kernel)) ggL_capture_X7_capture
set_option maxRecDepth 20000 in
theorem ggL_samples_X7_samples : GoodIn wsL_samples wsX7_samples := goodIn_ca (goodIn_r _ [6, 7, 8, 9, 10, 5, 11, 12, 13, 14, 15, 16, 17, 18, 19, 20, 21, 22, 23] (by decide +kernel) (by decide +kernel)) (goodIn_sub (fun _ h => List.mem_cons_of_mem _ (List.mem_append_right _ h)) (by decide +kernel))
set_option maxRecDepth 20000 in
theorem gL_samples_X7_samples : GoodIn wsL_samples (wsV RL 51 RX7 yX7_samples wsX7_samples) := goodIn_app (goodIn_of _ (by decide +kernel)) ggL_samples_X7_samples
set_option maxRecDepth 20000 in
theorem ggL_sample_X7_sample : GoodIn wsL_sample wsX7_sample := goodIn_ca (goodIn_ca (goodIn_r _ [7, 8, 9, 10, 6, 11, 12, 13, 14, 15, 16, 17, 18, 19, 20, 21, 22, 23, 24, 25, 26, 27, 28, 29, 30, 31, 32, 33, 34, 35, 36, 37, 38, 39, 40] (by decide +kernel) (by decide +kernel)) (goodIn_sub (fun _ h => List.mem_cons_of_mem _ (List.mem_append_left _ (List.mem_append_right _ h))) (by decide +kernel))) (goodIn_sub (fun _ h => List.mem_cons_of_mem _ (List.mem_append_right _ h)) (by decide +kernel))
set_option maxRecDepth 20000 in
theorem gL_sample_X7_sample : GoodIn wsL_sample (wsV RL 54 RX7 yX7_sample wsX7_sample) := goodIn_app (goodIn_of _ (by decide +kernel)) ggL_sample_X7_sample
set_option maxRecDepth 20000 in
theorem ggL_runs_X7_runs : GoodIn wsL_runs wsX7_runs := goodIn_ca (goodIn_r _ [6, 7, 8, 9, 5, 10, 11, 12, 13, 14, 15, 16, 17, 18, 19, 20, 21, 22, 23, 24, 25, 26, 27, 28, 29, 30, 31, 32, 33, 34, 35, 36, 37, 38, 39, 40, 41, 42, 43, 44] (by decide +kernel) (by decide +kernel)) (goodIn_sub (fun _ h => List.mem_cons_of_mem _ (List.mem_append_right _ h)) (by decide +kernel))
set_option maxRecDepth 20000 in
theorem gL_runs_X7_runs : GoodIn wsL_runs (wsV RL 59 RX7 yX7_runs wsX7_runs) := goodIn_app (goodIn_of _ (by decide +kernel)) ggL_runs_X7_runs
set_option maxRecDepth 20000 in
theorem ggL_run_X7_run : GoodIn wsL_run wsX7_run := goodIn_ca (goodIn_ca (goodIn_r _ [7, 8, 9, 10, 6, 11, 12, 13, 14, 15, 16, 17, 18, 19, 20, 21, 22, 23, 24, 25, 26, 27, 28, 29, 30, 31, 32, 33, 34, 35, 36, 37, 38, 39, 40, 41, 42, 43, 44, 45, 46, 47, 48, 49, 50] (by decide +kernel) (by decide +kernel)) (goodIn_sub (fun _ h => List.mem_cons_of_mem _ (List.mem_append_left _ (List.mem_append_right _ h))) (by decide +kernel))) (goodIn_sub (fun _ h => List.mem_cons_of_mem _ (List.mem_append_right _ h)) (by decide +kernel))
set_option maxRecDepth 20000 in
theorem gL_run_X7_run : GoodIn wsL_run (wsV RL 62 RX7 yX7_run wsX7_run) := goodIn_app (goodIn_of _ (by decide +kernel)) ggL_run_X7_run
set_option maxRecDepth 20000 in
theorem ggL_shortest_X7_shortest : GoodIn wsL_shortest wsX7_shortest := goodIn_ca (goodIn_ca (goodIn_r _ [7, 8, 9, 10, 6, 11, 12, 13, 14, 15, 16, 17, 18, 19, 20, 21, 22, 23, 24, 25, 26, 27, 28, 29, 30, 31, 32, 33, 34, 35, 36, 37, 38, 39, 40, 41, 42, 43, 44, 45, 46, 47, 48, 49, 50, 51, 52, 53, 54] (by decide +kernel) (by decide +kernel)) (goodIn_sub (fun _ h => List.mem_cons_of_mem _ (List.mem_append_left _ (List.mem_append_right _ h))) (by decide +kernel))) (goodIn_sub (fun _ h => List.mem_cons_of_mem _ (List.mem_append_right _ h)) (by decide +kernel))
set_option maxRecDepth 20000 in
theorem gL_shortest_X7_shortest : GoodIn wsL_shortest (wsV RL 65 RX7 yX7_shortest wsX7_shortest) := goodIn_app (goodIn_of _ (by decide +kernel)) ggL_shortest_X7_shortest
set_option maxRecDepth 20000 in
theorem ggL_block_X7_block : GoodIn wsL_block wsX7_block := goodIn_ca (goodIn_ca (goodIn_ca (goodIn_r _ [8, 9, 10, 11, 7, 12, 13, 14, 15, 16, 17, 18, 19, 20, 21, 22, 23, 24, 25, 26, 27, 28, 29, 30, 31, 32, 33, 34, 35, 36, 37, 38, 39, 40, 41, 42, 43, 44, 45, 46, 47, 48, 49, 50, 51, 52, 53, 54, 55, 56, 57, 58, 59, 60, 61, 62, 63, 64] (by decide +kernel) (by decide +kernel)) (goodIn_sub (fun _ h => List.mem_cons_of_mem _ (List.mem_append_left _ (List.mem_append_left _ (List.mem_append_right _ h)))) (by decide +kernel))) (goodIn_sub (fun _ h => List.mem_cons_of_mem _ (List.mem_append_left _ (List.mem_append_right _ h))) (by decide +kernel))) (goodIn_sub (fun _ h => List.mem_cons_of_mem _ (List.mem_append_right _ h)) (by decide +kernel))
set_option maxRecDepth 20000 in
theorem gL_block_X7_block : GoodIn wsL_block (wsV RL 68 RX7 yX7_block wsX7_block) := goodIn_app (goodIn_of _ (by decide +kernel)) ggL_block_X7_block
set_option maxRecDepth 20000 in
theorem ggL_step_X7_step : GoodIn wsL_step wsX7_step := goodIn_ca (goodIn_ca (goodIn_ca (goodIn_r _ [8, 9, 10, 11, 12, 7, 13, 14, 15, 16, 17, 18, 19, 20, 21, 22, 23, 24, 25, 26, 27, 28, 29, 30, 31, 32, 33, 34, 35, 36, 37, 38, 39, 40, 41, 42, 43, 44, 45, 46, 47, 48, 49, 50] (by decide +kernel) (by decide +kernel)) (goodIn_sub (fun _ h => List.mem_cons_of_mem _ (List.mem_append_left _ (List.mem_append_left _ (List.mem_append_right _ h)))) (by decide +kernel))) (goodIn_sub (fun _ h => List.mem_cons_of_mem _ (List.mem_append_left _ (List.mem_append_right _ h))) (by decide +kernel))) (goodIn_sub (fun _ h => List.mem_cons_of_mem _ (List.mem_append_right _ h)) (by decide +kernel))
set_option maxRecDepth 20000 in
theorem gL_step_X7_step : GoodIn wsL_step (wsV RL 72 RX7 yX7_step wsX7_step) := goodIn_app (goodIn_of _ (by decide +kernel)) ggL_step_X7_step
set_option maxRecDepth 20000 in
theorem ggL_trigger_X7_trigger : GoodIn wsL_trigger wsX7_trigger := goodIn_ca (goodIn_ca (goodIn_ca (goodIn_r _ [8, 9, 10, 11, 12, 13, 7, 14, 15, 16, 17, 18, 19, 20, 21, 22, 23, 24, 25, 26, 27, 28, 29, 30, 31, 32, 33, 34, 35, 36, 37, 38, 39, 40, 41, 42, 43, 44, 45, 46, 47, 48, 49, 50, 51, 52, 53, 54, 55, 56, 57, 58, 59, 60, 61, 62, 63, 64, 65, 66, 67, 68, 69, 70, 71, 72, 73, 74, 75, 76, 77, 78, 79, 80] (by decide +kernel) (by decide +kernel)) (goodIn_sub (fun _ h => List.mem_cons_of_mem _ (List.mem_append_left _ (List.mem_append_left _ (List.mem_append_right _ h)))) (by decide +kernel))) (goodIn_sub (fun _ h => List.mem_cons_of_mem _ (List.mem_append_left _ (List.mem_append_right _ h))) (by decide +kernel))) (goodIn_sub (fun _ h => List.mem_cons_of_mem _ (List.mem_append_right _ h)) (by decide +kernel))
set_option maxRecDepth 20000 in
theorem gL_trigger_X7_trigger : GoodIn wsL_trigger (wsV RL 76 RX7 yX7_trigger wsX7_trigger) := goodIn_app (goodIn_of _ (by decide +kernel)) ggL_trigger_X7_trigger
set_option maxRecDepth 20000 in
theorem ggL_decodeSerial_X7_decodeSerial : GoodIn wsL_decodeSerial wsX7_decodeSerial := goodIn_ca (goodIn_ca (goodIn_r _ [7, 8, 9, 10, 11, 12, 13, 6, 14, 15, 16, 17, 18, 19, 20, 21, 22, 23, 24, 25, 26, 27, 28, 29, 30, 31, 32, 33, 34, 35, 36, 37, 38, 39, 40, 41, 42, 43, 44, 45, 46, 47, 48, 49, 50, 51, 52, 53, 54, 55, 56, 57, 58, 59, 60, 61, 62, 63, 64, 65, 66, 67, 68, 69, 70, 71, 72, 73, 74, 75, 76, 77, 78, 79, 80, 81, 82, 83, 84, 85, 86, 87, 88, 89, 90] (by decide +kernel) (by decide +kernel)) (goodIn_sub (fun _ h => List.mem_cons_of_mem _ (List.mem_append_left _ (List.mem_append_right _ h))) (by decide +kernel))) (goodIn_sub (fun _ h => List.mem_cons_of_mem _ (List.mem_append_right _ h)) (by decide +kernel))
set_option maxRecDepth 20000 in
theorem gL_decodeSerial_X7_decodeSerial : GoodIn wsL_decodeSerial (wsV RL 81 RX7 yX7_decodeSerial wsX7_decodeSerial) := goodIn_app (goodIn_of _ (by decide +kernel)) ggL_decodeSerial_X7_decodeSerial
set_option maxRecDepth 20000 in
theorem ggL_decodeTwo_X7_decodeTwo : GoodIn wsL_decodeTwo wsX7_decodeTwo := goodIn_ca (goodIn_ca (goodIn_r _ [7, 8, 9, 10, 11, 12, 13, 14, 15, 16, 17, 6, 18, 19, 20, 21, 22, 23, 24, 25, 26, 27, 28, 29, 30, 31, 32, 33, 34, 35, 36, 37, 38, 39, 40, 41, 42, 43, 44, 45, 46, 47, 48, 49, 50, 51, 52, 53, 54, 55, 56, 57, 58, 59, 60, 61, 62, 63, 64, 65, 66, 67, 68, 69, 70, 71, 72, 73, 74, 75, 76, 77, 78, 79, 80, 81, 82, 83, 84, 85, 86, 87, 88, 89, 90, 91, 92, 93, 94, 95, 96, 97, 98, 99, 100, 101, 102, 103, 104, 105, 106, 107, 108, 109, 110, 111, 112, 113, 114, 115, 116, 117, 118, 119, 120, 121, 122, 123, 124] (by decide +kernel) (by decide +kernel)) (goodIn_sub (fun _ h => List.mem_cons_of_mem _ (List.mem_append_left _ (List.mem_append_right _ h))) (by decide +kernel))) (goodIn_sub (fun _ h => List.mem_cons_of_mem _ (List.mem_append_right _ h)) (by decide +kernel))
set_option maxRecDepth 20000 in
theorem gL_decodeTwo_X7_decodeTwo : GoodIn wsL_decodeTwo (wsV RL 85 RX7 yX7_decodeTwo wsX7_decodeTwo) := goodIn_app (goodIn_of _ (by decide +kernel)) ggL_decodeTwo_X7_decodeTwo
set_option maxRecDepth 20000 in
theorem ggL_decodeFour_X7_decodeFour : GoodIn wsL_decodeFour wsX7_decodeFour := goodIn_ca (goodIn_ca (goodIn_r _ [7, 8, 9, 10, 11, 12, 13, 14, 15, 16, 6, 17, 18, 19, 20, 21, 22, 23, 24, 25, 26, 27, 28, 29, 30, 31, 32, 33, 34, 35, 36, 37, 38, 39, 40, 41, 42, 43, 44, 45, 46, 47, 48, 49, 50, 51, 52, 53, 54, 55, 56, 57, 58, 59, 60, 61, 62, 63, 64, 65, 66, 67, 68, 69, 70, 71, 72, 73, 74, 75, 76, 77, 78, 79, 80, 81, 82, 83, 84, 85, 86, 87, 88, 89, 90, 91, 92, 93, 94, 95, 96, 97, 98, 99, 100, 101, 102] (by decide +kernel) (by decide +kernel)) (goodIn_sub (fun _ h => List.mem_cons_of_mem _ (List.mem_append_left _ (List.mem_append_right _ h))) (by decide +kernel))) (goodIn_sub (fun _ h => List.mem_cons_of_mem _ (List.mem_append_right _ h)) (by decide +kernel))
set_option maxRecDepth 20000 in
theorem gL_decodeFour_X7_decodeFour : GoodIn wsL_decodeFour (wsV RL 88 RX7 yX7_decodeFour wsX7_decodeFour) := goodIn_app (goodIn_of _ (by decide +kernel)) ggL_decodeFour_X7_decodeFour
set_option maxRecDepth 20000 in
theorem ggL_kind_X7_kind : GoodIn wsL_kind wsX7_kind := goodIn_ca (goodIn_r _ [6, 7, 8, 9, 10, 11, 5, 12, 13, 14, 15, 16, 17, 18, 19, 20, 21, 22, 23, 24, 25, 26, 27, 28, 29] (by decide +kernel) (by decide +kernel)) (goodIn_sub (fun _ h => List.mem_cons_of_mem _ (List.mem_append_right _ h)) (by decide +kernel))
set_option maxRecDepth 20000 in
theorem gL_kind_X7_kind : GoodIn wsL_kind (wsV RL 92 RX7 yX7_kind wsX7_kind) := goodIn_app (goodIn_of _ (by decide +kernel)) ggL_kind_X7_kind
set_option maxRecDepth 20000 in
theorem ggL_begin_X7_begin : GoodIn wsL_begin wsX7_begin := goodIn_ca (goodIn_r _ [6, 7, 8, 9, 10, 11, 5, 12, 13, 14, 15, 16, 17, 18, 19, 20, 21, 22, 23, 24, 25, 26, 27, 28, 29] (by decide +kernel) (by decide +kernel)) (goodIn_sub (fun _ h => List.mem_cons_of_mem _ (List.mem_append_right _ h)) (by decide +kernel))
set_option maxRecDepth 20000 in
theorem gL_begin_X7_begin : GoodIn wsL_begin (wsV RL 96 RX7 yX7_begin wsX7_begin) := goodIn_app (goodIn_of _ (by decide +kernel)) ggL_begin_X7_begin
set_option maxRecDepth 20000 in
theorem ggL_end_X7_end : GoodIn wsL_end wsX7_end := goodIn_ca (goodIn_r _ [6, 7, 8, 9, 10, 11, 5, 12, 13, 14, 15, 16, 17, 18, 19, 20, 21, 22, 23, 24, 25, 26, 27, 28, 29] (by decide +kernel) (by decide +kernel)) (goodIn_sub (fun _ h => List.mem_cons_of_mem _ (List.mem_append_right _ h)) (by decide +kernel))
set_option maxRecDepth 20000 in
theorem gL_end_X7_end : GoodIn wsL_end (wsV RL 99 RX7 yX7_end wsX7_end) := goodIn_app (goodIn_of _ (by decide +kernel)) ggL_end_X7_end
set_option maxRecDepth 20000 in
theorem ggL_value_X7_value : GoodIn wsL_value wsX7_value := goodIn_ca (goodIn_r _ [6, 7, 8, 9, 10, 11, 5, 12, 13, 14, 15, 16, 17, 18, 19, 20, 21, 22, 23, 24, 25, 26, 27, 28, 29] (by decide +kernel) (by decide +kernel)) (goodIn_sub (fun _ h => List.mem_cons_of_mem _ (List.mem_append_right _ h)) (by decide +kernel))
set_option maxRecDepth 20000 in
theorem gL_value_X7_value : GoodIn wsL_value (wsV RL 102 RX7 yX7_value wsX7_value) := goodIn_app (goodIn_of _ (by decide +kernel)) ggL_value_X7_value
set_option maxRecDepth 20000 in
theorem ggL_fault_X7_fault : GoodIn wsL_fault wsX7_fault := goodIn_ca (goodIn_r _ [6, 7, 8, 9, 10, 11, 5, 12, 13, 14, 15, 16, 17, 18, 19, 20, 21, 22, 23, 24, 25, 26, 27, 28, 29] (by decide +kernel) (by decide +kernel)) (goodIn_sub (fun _ h => List.mem_cons_of_mem _ (List.mem_append_right _ h)) (by decide +kernel))
set_option maxRecDepth 20000 in
theorem gL_fault_X7_fault : GoodIn wsL_fault (wsV RL 105 RX7 yX7_fault wsX7_fault) := goodIn_app (goodIn_of _ (by decide +kernel)) ggL_fault_X7_fault
set_option maxRecDepth 20000 in
theorem ggL_rate_X7_rate : GoodIn wsL_rate wsX7_rate := goodIn_ca (goodIn_ca (goodIn_r _ [7, 8, 9, 10, 6, 11, 12, 13, 14, 15, 16, 17, 18, 19, 20, 21, 22, 23, 24, 25, 26, 27, 28, 29, 30, 31, 32, 33, 34, 35, 36, 37, 38, 39, 40, 41, 42, 43, 44, 45, 46, 47, 48, 49, 50, 51, 52, 53, 54] (by decide +kernel) (by decide +kernel)) (goodIn_sub (fun _ h => List.mem_cons_of_mem _ (List.mem_append_left _ (List.mem_append_right _ h))) (by decide +kernel))) (goodIn_sub (fun _ h => List.mem_cons_of_mem _ (List.mem_append_right _ h)) (by decide +kernel))
set_option maxRecDepth 20000 in
theorem gL_rate_X7_rate : GoodIn wsL_rate (wsV RL 108 RX7 yX7_rate wsX7_rate) := goodIn_app (goodIn_of _ (by decide +kernel)) ggL_rate_X7_rate
set_option maxRecDepth 20000 in
theorem ggL_register_X7_register : GoodIn wsL_register wsX7_register := goodIn_ca (goodIn_r _ [6, 7, 8, 9, 5, 10, 11, 12, 13, 14, 15, 16, 17, 18, 19, 20, 21, 22, 23, 24, 25, 26, 27] (by decide +kernel) (by decide +kernel)) (goodIn_sub (fun _ h => List.mem_cons_of_mem _ (List.mem_append_right _ h)) (by decide +kernel))
set_option maxRecDepth 20000 in
theorem gL_register_X7_register : GoodIn wsL_register (wsV RL 111 RX7 yX7_register wsX7_register) := goodIn_app (goodIn_of _ (by decide +kernel)) ggL_register_X7_register
set_option maxRecDepth 20000 in
theorem ggL_follows_X7_follows : GoodIn wsL_follows wsX7_follows := goodIn_ca (goodIn_r _ [6, 7, 8, 9, 5, 10, 11, 12, 13, 14, 15, 16, 17, 18, 19, 20, 21, 22, 23, 24, 25, 26, 27, 28, 29, 30, 31, 32, 33, 34] (by decide +kernel) (by decide +kernel)) (goodIn_sub (fun _ h => List.mem_cons_of_mem _ (List.mem_append_right _ h)) (by decide +kernel))
set_option maxRecDepth 20000 in
theorem gL_follows_X7_follows : GoodIn wsL_follows (wsV RL 114 RX7 yX7_follows wsX7_follows) := goodIn_app (goodIn_of _ (by decide +kernel)) ggL_follows_X7_follows
set_option maxRecDepth 20000 in
theorem ggL_alike_X7_alike : GoodIn wsL_alike wsX7_alike := goodIn_ca (goodIn_r _ [6, 7, 8, 5, 9, 10, 11, 12, 13, 14, 15, 16, 17, 18, 19, 20, 21, 22, 23, 24, 25, 26, 27, 28, 29, 30, 31, 32, 33, 34, 35, 36, 37, 38, 39] (by decide +kernel) (by decide +kernel)) (goodIn_sub (fun _ h => List.mem_cons_of_mem _ (List.mem_append_right _ h)) (by decide +kernel))
set_option maxRecDepth 20000 in
theorem gL_alike_X7_alike : GoodIn wsL_alike (wsV RL 117 RX7 yX7_alike wsX7_alike) := goodIn_app (goodIn_of _ (by decide +kernel)) ggL_alike_X7_alike
set_option maxRecDepth 20000 in
theorem ggL_differs_X7_differs : GoodIn wsL_differs wsX7_differs := goodIn_ca (goodIn_ca (goodIn_r _ [7, 8, 9, 6, 10, 11, 12, 13, 14, 15, 16, 17, 18, 19, 20, 21, 22, 23, 24, 25, 26, 27, 28, 29, 30, 31, 32, 33, 34, 35, 36, 37, 38, 39, 40, 41, 42, 43, 44, 45] (by decide +kernel) (by decide +kernel)) (goodIn_sub (fun _ h => List.mem_cons_of_mem _ (List.mem_append_left _ (List.mem_append_right _ h))) (by decide +kernel))) (goodIn_sub (fun _ h => List.mem_cons_of_mem _ (List.mem_append_right _ h)) (by decide +kernel))
set_option maxRecDepth 20000 in
theorem gL_differs_X7_differs : GoodIn wsL_differs (wsV RL 120 RX7 yX7_differs wsX7_differs) := goodIn_app (goodIn_of _ (by decide +kernel)) ggL_differs_X7_differs
set_option maxRecDepth 20000 in
theorem ggL_best_X7_best : GoodIn wsL_best wsX7_best := goodIn_ca (goodIn_ca (goodIn_r _ [7, 8, 9, 10, 11, 6, 12, 13, 14, 15, 16, 17, 18, 19, 20, 21, 22, 23, 24, 25, 26, 27, 28, 29, 30, 31, 32, 33, 34, 35, 36, 37, 38, 39, 40, 41, 42, 43, 44, 45] (by decide +kernel) (by decide +kernel)) (goodIn_sub (fun _ h => List.mem_cons_of_mem _ (List.mem_append_left _ (List.mem_append_right _ h))) (by decide +kernel))) (goodIn_sub (fun _ h => List.mem_cons_of_mem _ (List.mem_append_right _ h)) (by decide +kernel))
set_option maxRecDepth 20000 in
theorem gL_best_X7_best : GoodIn wsL_best (wsV RL 123 RX7 yX7_best wsX7_best) := goodIn_app (goodIn_of _ (by decide +kernel)) ggL_best_X7_best
set_option maxRecDepth 20000 in
theorem ggL_highShare_X7_highShare : GoodIn wsL_highShare wsX7_highShare := goodIn_ca (goodIn_ca (goodIn_r _ [7, 8, 9, 10, 11, 6, 12, 13, 14, 15, 16, 17, 18, 19, 20, 21, 22, 23, 24, 25, 26, 27, 28, 29, 30, 31, 32, 33, 34, 35, 36, 37, 38, 39, 40, 41, 42, 43, 44, 45, 46, 47] (by decide +kernel) (by decide +kernel)) (goodIn_sub (fun _ h => List.mem_cons_of_mem _ (List.mem_append_left _ (List.mem_append_right _ h))) (by decide +kernel))) (goodIn_sub (fun _ h => List.mem_cons_of_mem _ (List.mem_append_right _ h)) (by decide +kernel))
set_option maxRecDepth 20000 in
theorem gL_highShare_X7_highShare : GoodIn wsL_highShare (wsV RL 126 RX7 yX7_highShare wsX7_highShare) := goodIn_app (goodIn_of _ (by decide +kernel)) ggL_highShare_X7_highShare
set_option maxRecDepth 20000 in
theorem ggL_meanRun_X7_meanRun : GoodIn wsL_meanRun wsX7_meanRun := goodIn_ca (goodIn_ca (goodIn_r _ [7, 8, 9, 10, 11, 6, 12, 13, 14, 15, 16, 17, 18, 19, 20, 21, 22, 23, 24, 25, 26, 27, 28, 29, 30, 31, 32, 33, 34, 35, 36, 37, 38, 39, 40, 41, 42, 43, 44, 45, 46, 47, 48, 49, 50, 51] (by decide +kernel) (by decide +kernel)) (goodIn_sub (fun _ h => List.mem_cons_of_mem _ (List.mem_append_left _ (List.mem_append_right _ h))) (by decide +kernel))) (goodIn_sub (fun _ h => List.mem_cons_of_mem _ (List.mem_append_right _ h)) (by decide +kernel))
set_option maxRecDepth 20000 in
theorem gL_meanRun_X7_meanRun : GoodIn wsL_meanRun (wsV RL 130 RX7 yX7_meanRun wsX7_meanRun) := goodIn_app (goodIn_of _ (by decide +kernel)) ggL_meanRun_X7_meanRun
set_option maxRecDepth 20000 in
theorem ggL_law_X7_init : GoodIn wsL_law wsX7_init := goodIn_r _ [10, 11, 12, 13, 14, 15, 16, 17, 18, 19, 20, 21, 22, 23, 24, 25, 26, 27, 28, 29, 30, 31, 32, 33, 34, 35, 36, 37, 38, 39, 40, 41, 42, 43, 44, 45, 46, 47, 48, 49, 50, 51, 52, 53, 54, 55, 56, 57, 58, 59, 60, 61, 62, 63, 64, 65, 66, 67, 68, 69, 1256, 1257, 1258, 1259, 1260, 1261, 1262, 1263, 1274, 1275, 1276, 1277, 1278, 1279, 1280, 1281, 1282, 1283, 1284, 1285, 1286, 1287, 1288, 1289, 1290, 1291, 1292] (by decide +kernel) (by decide +kernel)
set_option maxRecDepth 20000 in
theorem gL_law_X7_init : GoodIn wsL_law (wsX7_init) := ggL_law_X7_init
set_option maxRecDepth 20000 in
theorem ggL_law_X11_init : GoodIn wsL_law wsX11_init := goodIn_r _ [72, 73, 12, 13, 74, 75, 76, 77, 78, 79, 80, 40, 81, 82, 83, 84, 85, 86, 87, 88, 89, 90, 91, 92, 93, 94, 95, 96, 97, 98, 99, 100, 101, 102, 103, 1264, 1265, 1266, 1267, 1268, 1269, 1270, 1271, 1272, 1273, 1293, 1294, 1295] (by decide +kernel) (by decide +kernel)
set_option maxRecDepth 20000 in
theorem gL_law_X11_init : GoodIn wsL_law (wsX11_init) := ggL_law_X11_init
set_option maxRecDepth 20000 in
theorem ggL_law_L_idle : GoodIn wsL_law wsL_idle := goodIn_ca (goodIn_r _ [107, 108, 109, 110, 111, 2, 112, 15, 113, 114, 115, 116, 117, 118, 1256, 1257, 1258, 1259, 1260, 1261, 1262, 1263, 1274, 1275, 1276, 1277, 1278, 1279] (by decide +kernel) (by decide +kernel)) (goodIn_sub (fun _ h => List.mem_append_left _ (List.mem_append_left _ (List.mem_append_left _ (List.mem_append_left _ (List.mem_append_right _ h))))) (by decide +kernel))
set_option maxRecDepth 20000 in
theorem gL_law_L_idle : GoodIn wsL_law (va_wsS RL 138 yL_idle wsL_idle) := goodIn_app (goodIn_of _ (by decide +kernel)) ggL_law_L_idle
set_option maxRecDepth 20000 in
theorem ggL_law_X11_idle : GoodIn wsL_law wsX11_idle := goodIn_r _ [122, 75, 123, 124, 125, 5, 126, 88, 127, 128, 129, 130, 131, 132, 133, 1264, 1265, 1266, 1267, 1268, 1269, 1270, 1271, 1272, 1273] (by decide +kernel) (by decide +kernel)
set_option maxRecDepth 20000 in
theorem gL_law_X11_idle : GoodIn wsL_law (wsV RL 143 RX11 yX11_idle wsX11_idle) := goodIn_app (goodIn_of _ (by decide +kernel)) ggL_law_X11_idle
set_option maxRecDepth 20000 in
theorem ggL_law_X11_thrown : GoodIn wsL_law wsX11_thrown := goodIn_r _ [137, 88, 1264, 1265, 1266, 1267, 1268, 1269, 1270, 1271, 1272, 1273] (by decide +kernel) (by decide +kernel)
set_option maxRecDepth 20000 in
theorem gL_law_X11_thrown : GoodIn wsL_law (wsV RL 144 RX11 yX11_thrown wsX11_thrown) := goodIn_app (goodIn_of _ (by decide +kernel)) ggL_law_X11_thrown
set_option maxRecDepth 20000 in
theorem ggL_law_L_flip : GoodIn wsL_law wsL_flip := goodIn_ca (goodIn_ca (goodIn_ca (goodIn_r _ [140, 108, 141, 142, 143, 144, 145, 2, 146, 15, 147, 114, 115, 116, 117, 118, 148, 149, 150, 151, 152, 153, 154, 155, 17, 156, 157, 158, 159, 160, 161, 162, 42, 163, 164, 165, 166, 167, 168, 169, 170, 171, 41, 172, 173, 174, 175, 176, 177, 178, 179, 180, 181, 182, 183, 184, 185, 186, 187, 188, 189, 190, 191, 192, 193, 194, 195, 196, 1256, 1257, 1258, 1259, 1260, 1261, 1262, 1263, 1274, 1275, 1276, 1277, 1278, 1279] (by decide +kernel) (by decide +kernel)) (goodIn_sub (fun _ h => List.mem_append_left _ (List.mem_append_left _ (List.mem_append_left _ (List.mem_append_left _ (List.mem_append_right _ h))))) (by decide +kernel))) (goodIn_sub (fun _ h => List.mem_append_left _ (List.mem_append_left _ (List.mem_append_left _ (List.mem_append_right _ h)))) (by decide +kernel))) (goodIn_sub (fun _ h => List.mem_append_left _ (List.mem_append_left _ (List.mem_append_right _ h))) (by decide +kernel))
set_option maxRecDepth 20000 in
theorem gL_law_L_flip : GoodIn wsL_law (va_wsS RL 148 yL_flip wsL_flip) := goodIn_app (goodIn_of _ (by decide +kernel)) ggL_law_L_flip
set_option maxRecDepth 20000 in
theorem ggL_law_X11_flip : GoodIn wsL_law wsX11_flip := goodIn_r _ [200, 201, 77, 88, 123, 124, 125, 5, 126, 127, 128, 129, 130, 131, 132, 133, 202, 203, 204, 205, 1264, 1265, 1266, 1267, 1268, 1269, 1270, 1271, 1272, 1273] (by decide +kernel) (by decide +kernel)
set_option maxRecDepth 20000 in
theorem gL_law_X11_flip : GoodIn wsL_law (wsV RL 151 RX11 yX11_flip wsX11_flip) := goodIn_app (goodIn_of _ (by decide +kernel)) ggL_law_X11_flip
set_option maxRecDepth 20000 in
theorem ggL_law_L_level : GoodIn wsL_law wsL_level := goodIn_ca (goodIn_ca (goodIn_r _ [208, 108, 141, 209, 210, 211, 2, 212, 15, 114, 115, 116, 117, 118, 148, 149, 150, 151, 152, 213, 214, 215, 17, 216, 217, 172, 173, 174, 175, 167, 41, 1256, 1257, 1258, 1259, 1260, 1261, 1262, 1263, 1274, 1275, 1276, 1277, 1278, 1279] (by decide +kernel) (by decide +kernel)) (goodIn_sub (fun _ h => List.mem_append_left _ (List.mem_append_left _ (List.mem_append_left _ (List.mem_append_left _ (List.mem_append_right _ h))))) (by decide +kernel))) (goodIn_sub (fun _ h => List.mem_append_left _ (List.mem_append_left _ (List.mem_append_left _ (List.mem_append_right _ h)))) (by decide +kernel))
set_option maxRecDepth 20000 in
theorem gL_law_L_level : GoodIn wsL_law (va_wsS RL 152 yL_level wsL_level) := goodIn_app (goodIn_of _ (by decide +kernel)) ggL_law_L_level
set_option maxRecDepth 20000 in
theorem ggL_law_X11_level : GoodIn wsL_law wsX11_level := goodIn_r _ [221, 201, 88, 123, 124, 125, 5, 126, 127, 128, 129, 130, 131, 132, 133, 222, 223, 224, 225, 75, 77, 1264, 1265, 1266, 1267, 1268, 1269, 1270, 1271, 1272, 1273] (by decide +kernel) (by decide +kernel)
set_option maxRecDepth 20000 in
theorem gL_law_X11_level : GoodIn wsL_law (wsV RL 154 RX11 yX11_level wsX11_level) := goodIn_app (goodIn_of _ (by decide +kernel)) ggL_law_X11_level
set_option maxRecDepth 20000 in
theorem ggL_law_L_glitch : GoodIn wsL_law wsL_glitch := goodIn_ca (goodIn_ca (goodIn_ca (goodIn_r _ [228, 108, 141, 142, 229, 230, 231, 2, 232, 15, 147, 114, 115, 116, 117, 118, 148, 149, 150, 151, 152, 153, 154, 155, 17, 156, 157, 158, 159, 160, 161, 162, 42, 163, 164, 165, 166, 167, 168, 169, 170, 171, 41, 172, 173, 174, 175, 176, 177, 178, 179, 180, 181, 182, 183, 184, 185, 186, 187, 188, 189, 190, 191, 192, 193, 194, 195, 196, 1256, 1257, 1258, 1259, 1260, 1261, 1262, 1263, 1274, 1275, 1276, 1277, 1278, 1279] (by decide +kernel) (by decide +kernel)) (goodIn_sub (fun _ h => List.mem_append_left _ (List.mem_append_left _ (List.mem_append_left _ (List.mem_append_left _ (List.mem_append_right _ h))))) (by decide +kernel))) (goodIn_sub (fun _ h => List.mem_append_left _ (List.mem_append_left _ (List.mem_append_left _ (List.mem_append_right _ h)))) (by decide +kernel))) (goodIn_sub (fun _ h => List.mem_append_left _ (List.mem_append_left _ (List.mem_append_right _ h))) (by decide +kernel))
set_option maxRecDepth 20000 in
theorem gL_law_L_glitch : GoodIn wsL_law (va_wsS RL 155 yL_glitch wsL_glitch) := goodIn_app (goodIn_of _ (by decide +kernel)) ggL_law_L_glitch
set_option maxRecDepth 20000 in
theorem ggL_law_X11_glitch : GoodIn wsL_law wsX11_glitch := goodIn_r _ [236, 201, 237, 88, 77, 123, 124, 125, 5, 126, 127, 128, 129, 130, 131, 132, 133, 238, 239, 240, 241, 242, 243, 244, 245, 246, 247, 248, 249, 250, 251, 252, 253, 202, 203, 204, 205, 1264, 1265, 1266, 1267, 1268, 1269, 1270, 1271, 1272, 1273] (by decide +kernel) (by decide +kernel)
set_option maxRecDepth 20000 in
theorem gL_law_X11_glitch : GoodIn wsL_law (wsV RL 158 RX11 yX11_glitch wsX11_glitch) := goodIn_app (goodIn_of _ (by decide +kernel)) ggL_law_X11_glitch
set_option maxRecDepth 20000 in
theorem ggL_law_L_drift : GoodIn wsL_law wsL_drift := goodIn_ca (goodIn_r _ [256, 141, 257, 258, 259, 2, 260, 261, 148, 149, 150, 151, 152, 1256, 1257, 1258, 1259, 1260, 1261, 1262, 1263] (by decide +kernel) (by decide +kernel)) (goodIn_sub (fun _ h => List.mem_append_left _ (List.mem_append_left _ (List.mem_append_left _ (List.mem_append_right _ h)))) (by decide +kernel))
set_option maxRecDepth 20000 in
theorem gL_law_L_drift : GoodIn wsL_law (va_wsS RL 159 yL_drift wsL_drift) := goodIn_app (goodIn_of _ (by decide +kernel)) ggL_law_L_drift
set_option maxRecDepth 20000 in
theorem ggL_law_X11_drift : GoodIn wsL_law wsX11_drift := goodIn_r _ [265, 266, 267, 88, 268, 131, 132, 5, 133, 1264, 1265, 1266, 1267, 1268, 1269, 1270, 1271, 1272, 1273] (by decide +kernel) (by decide +kernel)
set_option maxRecDepth 20000 in
theorem gL_law_X11_drift : GoodIn wsL_law (wsV RL 162 RX11 yX11_drift wsX11_drift) := goodIn_app (goodIn_of _ (by decide +kernel)) ggL_law_X11_drift
set_option maxRecDepth 20000 in
theorem ggL_law_L_serial : GoodIn wsL_law wsL_serial := goodIn_ca (goodIn_ca (goodIn_ca (goodIn_r _ [271, 108, 141, 142, 272, 273, 274, 2, 275, 15, 114, 115, 116, 117, 118, 148, 149, 150, 151, 152, 276, 277, 278, 279, 280, 281, 282, 283, 284, 285, 286, 287, 288, 289, 290, 291, 292, 293, 294, 153, 154, 155, 17, 156, 157, 158, 295, 296, 297, 298, 299, 300, 301, 261, 302, 303, 304, 305, 306, 160, 161, 162, 42, 163, 164, 165, 166, 167, 168, 169, 170, 171, 41, 172, 173, 174, 175, 176, 177, 178, 179, 180, 181, 182, 183, 184, 185, 186, 187, 188, 189, 190, 191, 192, 193, 194, 195, 196, 1256, 1257, 1258, 1259, 1260, 1261, 1262, 1263, 1274, 1275, 1276, 1277, 1278, 1279] (by decide +kernel) (by decide +kernel)) (goodIn_sub (fun _ h => List.mem_append_left _ (List.mem_append_left _ (List.mem_append_left _ (List.mem_append_left _ (List.mem_append_right _ h))))) (by decide +kernel))) (goodIn_sub (fun _ h => List.mem_append_left _ (List.mem_append_left _ (List.mem_append_left _ (List.mem_append_right _ h)))) (by decide +kernel))) (goodIn_sub (fun _ h => List.mem_append_left _ (List.mem_append_left _ (List.mem_append_right _ h))) (by decide +kernel))
set_option maxRecDepth 20000 in
theorem gL_law_L_serial : GoodIn wsL_law (va_wsS RL 163 yL_serial wsL_serial) := goodIn_app (goodIn_of _ (by decide +kernel)) ggL_law_L_serial
set_option maxRecDepth 20000 in
theorem ggL_law_X11_serial : GoodIn wsL_law wsX11_serial := goodIn_r _ [310, 311, 201, 312, 267, 88, 313, 314, 315, 123, 124, 125, 5, 126, 127, 128, 129, 130, 131, 132, 133, 316, 317, 318, 319, 320, 321, 322, 323, 12, 13, 324, 74, 325, 326, 327, 239, 240, 241, 242, 77, 243, 244, 245, 246, 247, 328, 329, 330, 331, 332, 333, 334, 268, 249, 250, 335, 289, 290, 291, 292, 293, 294, 336, 337, 338, 339, 252, 253, 1264, 1265, 1266, 1267, 1268, 1269, 1270, 1271, 1272, 1273, 1296, 1297, 1298, 1299, 1300] (by decide +kernel) (by decide +kernel)
set_option maxRecDepth 20000 in
theorem gL_law_X11_serial : GoodIn wsL_law (wsV RL 166 RX11 yX11_serial wsX11_serial) := goodIn_app (goodIn_of _ (by decide +kernel)) ggL_law_X11_serial
set_option maxRecDepth 20000 in
theorem ggL_law_X7_answers : GoodIn wsL_law wsX7_answers := goodIn_r _ [343, 34, 35, 1256, 1257, 1258, 1259, 1260, 1261, 1262, 1263] (by decide +kernel) (by decide +kernel)
set_option maxRecDepth 20000 in
theorem gL_law_X7_answers : GoodIn wsL_law (wsV RL 167 RX7 yX7_answers wsX7_answers) := goodIn_app (goodIn_of _ (by decide +kernel)) ggL_law_X7_answers
set_option maxRecDepth 20000 in
theorem ggL_law_X11_answers : GoodIn wsL_law wsX11_answers := goodIn_r _ [347, 88, 78, 79, 1264, 1265, 1266, 1267, 1268, 1269, 1270, 1271, 1272, 1273] (by decide +kernel) (by decide +kernel)
set_option maxRecDepth 20000 in
theorem gL_law_X11_answers : GoodIn wsL_law (wsV RL 171 RX11 yX11_answers wsX11_answers) := goodIn_app (goodIn_of _ (by decide +kernel)) ggL_law_X11_answers
set_option maxRecDepth 20000 in
theorem ggL_law_L_twoWires : GoodIn wsL_law wsL_twoWires := goodIn_ca (goodIn_ca (goodIn_ca (goodIn_r _ [350, 108, 141, 142, 351, 352, 353, 2, 354, 34, 35, 15, 114, 115, 116, 117, 118, 148, 149, 150, 151, 152, 355, 356, 357, 358, 359, 360, 361, 362, 363, 364, 153, 154, 155, 17, 156, 157, 158, 302, 303, 304, 305, 306, 160, 161, 162, 42, 298, 299, 300, 301, 261, 295, 296, 297, 163, 164, 165, 166, 167, 168, 169, 170, 171, 41, 172, 173, 174, 175, 176, 177, 178, 179, 180, 181, 182, 183, 184, 185, 186, 187, 188, 189, 190, 191, 192, 193, 194, 195, 196, 1256, 1257, 1258, 1259, 1260, 1261, 1262, 1263, 1274, 1275, 1276, 1277, 1278, 1279] (by decide +kernel) (by decide +kernel)) (goodIn_sub (fun _ h => List.mem_append_left _ (List.mem_append_left _ (List.mem_append_left _ (List.mem_append_left _ (List.mem_append_right _ h))))) (by decide +kernel))) (goodIn_sub (fun _ h => List.mem_append_left _ (List.mem_append_left _ (List.mem_append_left _ (List.mem_append_right _ h)))) (by decide +kernel))) (goodIn_sub (fun _ h => List.mem_append_left _ (List.mem_append_left _ (List.mem_append_right _ h))) (by decide +kernel))
set_option maxRecDepth 20000 in
theorem gL_law_L_twoWires : GoodIn wsL_law (va_wsS RL 172 yL_twoWires wsL_twoWires) := goodIn_app (goodIn_of _ (by decide +kernel)) ggL_law_L_twoWires
set_option maxRecDepth 20000 in
theorem ggL_law_X11_twoWires : GoodIn wsL_law wsX11_twoWires := goodIn_r _ [368, 88, 369, 370, 311, 201, 267, 313, 314, 315, 40, 78, 79, 127, 128, 5, 129, 130, 131, 132, 133, 319, 320, 321, 322, 323, 12, 13, 324, 74, 325, 326, 327, 239, 240, 241, 242, 77, 243, 244, 245, 246, 247, 328, 329, 330, 331, 332, 333, 334, 268, 249, 250, 336, 337, 338, 339, 252, 253, 1264, 1265, 1266, 1267, 1268, 1269, 1270, 1271, 1272, 1273, 1296, 1297, 1298, 1299, 1300] (by decide +kernel) (by decide +kernel)
set_option maxRecDepth 20000 in
theorem gL_law_X11_twoWires : GoodIn wsL_law (wsV RL 175 RX11 yX11_twoWires wsX11_twoWires) := goodIn_app (goodIn_of _ (by decide +kernel)) ggL_law_X11_twoWires
set_option maxRecDepth 20000 in
theorem ggL_law_L_fourWires : GoodIn wsL_law wsL_fourWires := goodIn_ca (goodIn_ca (goodIn_ca (goodIn_r _ [373, 108, 141, 142, 374, 375, 376, 2, 377, 15, 114, 115, 116, 117, 118, 148, 149, 150, 151, 152, 378, 379, 380, 355, 356, 357, 298, 299, 300, 301, 261, 381, 382, 383, 153, 154, 155, 17, 156, 157, 158, 302, 303, 304, 305, 306, 160, 161, 162, 42, 384, 385, 386, 387, 388, 389, 390, 391, 295, 296, 297, 163, 164, 165, 166, 167, 168, 169, 170, 171, 41, 172, 173, 174, 175, 176, 177, 178, 179, 180, 181, 182, 183, 184, 185, 186, 187, 188, 189, 190, 191, 192, 193, 194, 195, 196, 1256, 1257, 1258, 1259, 1260, 1261, 1262, 1263, 1274, 1275, 1276, 1277, 1278, 1279] (by decide +kernel) (by decide +kernel)) (goodIn_sub (fun _ h => List.mem_append_left _ (List.mem_append_left _ (List.mem_append_left _ (List.mem_append_left _ (List.mem_append_right _ h))))) (by decide +kernel))) (goodIn_sub (fun _ h => List.mem_append_left _ (List.mem_append_left _ (List.mem_append_left _ (List.mem_append_right _ h)))) (by decide +kernel))) (goodIn_sub (fun _ h => List.mem_append_left _ (List.mem_append_left _ (List.mem_append_right _ h))) (by decide +kernel))
set_option maxRecDepth 20000 in
theorem gL_law_L_fourWires : GoodIn wsL_law (va_wsS RL 176 yL_fourWires wsL_fourWires) := goodIn_app (goodIn_of _ (by decide +kernel)) ggL_law_L_fourWires
set_option maxRecDepth 20000 in
theorem ggL_law_X11_fourWires : GoodIn wsL_law wsX11_fourWires := goodIn_r _ [395, 88, 311, 201, 267, 130, 313, 314, 315, 127, 128, 5, 129, 131, 132, 133, 319, 320, 321, 322, 323, 12, 13, 324, 74, 325, 326, 327, 239, 240, 241, 242, 77, 243, 244, 245, 246, 247, 328, 329, 330, 331, 332, 333, 334, 268, 249, 250, 336, 337, 338, 339, 252, 253, 1264, 1265, 1266, 1267, 1268, 1269, 1270, 1271, 1272, 1273, 1296, 1297, 1298, 1299, 1300] (by decide +kernel) (by decide +kernel)
set_option maxRecDepth 20000 in
theorem gL_law_X11_fourWires : GoodIn wsL_law (wsV RL 179 RX11 yX11_fourWires wsX11_fourWires) := goodIn_app (goodIn_of _ (by decide +kernel)) ggL_law_X11_fourWires
set_option maxRecDepth 20000 in
theorem ggL_law_L_capture : GoodIn wsL_law wsL_capture := goodIn_ca (goodIn_ca (goodIn_r _ [398, 108, 141, 399, 400, 401, 2, 402, 19, 15, 403, 404, 405, 117, 118, 148, 149, 150, 151, 152, 406, 407, 408, 21, 409, 47, 410, 411, 412, 413, 414, 415, 416, 417, 418, 419, 420, 421, 17, 422, 217, 423, 167, 41, 424, 425, 426, 427, 428, 429, 430, 431, 432, 433, 434, 435, 436, 437, 438, 439, 1256, 1257, 1258, 1259, 1260, 1261, 1262, 1263, 1280, 1281, 1274, 1275, 1276, 1277, 1278, 1279] (by decide +kernel) (by decide +kernel)) (goodIn_sub (fun _ h => List.mem_append_left _ (List.mem_append_left _ (List.mem_append_left _ (List.mem_append_left _ (List.mem_append_right _ h))))) (by decide +kernel))) (goodIn_sub (fun _ h => List.mem_append_left _ (List.mem_append_left _ (List.mem_append_left _ (List.mem_append_right _ h)))) (by decide +kernel))
set_option maxRecDepth 20000 in
theorem gL_law_L_capture : GoodIn wsL_law (va_wsS RL 180 yL_capture wsL_capture) := goodIn_app (goodIn_of _ (by decide +kernel)) ggL_law_L_capture
set_option maxRecDepth 20000 in
theorem ggL_law_X11_capture : GoodIn wsL_law wsX11_capture := goodIn_r _ [443, 201, 237, 444, 88, 40, 75, 243, 244, 245, 246, 247, 242, 77, 81, 445, 446, 447, 5, 448, 131, 132, 133, 1264, 1265, 1266, 1267, 1268, 1269, 1270, 1271, 1272, 1273] (by decide +kernel) (by decide +kernel)
set_option maxRecDepth 20000 in
theorem gL_law_X11_capture : GoodIn wsL_law (wsV RL 183 RX11 yX11_capture wsX11_capture) := goodIn_app (goodIn_of _ (by decide +kernel)) ggL_law_X11_capture
set_option maxRecDepth 20000 in
theorem ggL_law_L_samples : GoodIn wsL_law wsL_samples := goodIn_ca (goodIn_r _ [451, 108, 452, 453, 454, 2, 455, 19, 456, 403, 404, 405, 117, 118, 1256, 1257, 1258, 1259, 1260, 1261, 1262, 1263, 1280, 1281] (by decide +kernel) (by decide +kernel)) (goodIn_sub (fun _ h => List.mem_append_left _ (List.mem_append_left _ (List.mem_append_left _ (List.mem_append_left _ (List.mem_append_right _ h))))) (by decide +kernel))
set_option maxRecDepth 20000 in
theorem gL_law_L_samples : GoodIn wsL_law (va_wsS RL 184 yL_samples wsL_samples) := goodIn_app (goodIn_of _ (by decide +kernel)) ggL_law_L_samples
set_option maxRecDepth 20000 in
theorem ggL_law_X11_samples : GoodIn wsL_law wsX11_samples := goodIn_r _ [460, 81, 445, 446, 447, 5, 448, 88, 131, 132, 133, 1264, 1265, 1266, 1267, 1268, 1269, 1270, 1271, 1272, 1273] (by decide +kernel) (by decide +kernel)
set_option maxRecDepth 20000 in
theorem gL_law_X11_samples : GoodIn wsL_law (wsV RL 186 RX11 yX11_samples wsX11_samples) := goodIn_app (goodIn_of _ (by decide +kernel)) ggL_law_X11_samples
set_option maxRecDepth 20000 in
theorem ggL_law_L_sample : GoodIn wsL_law wsL_sample := goodIn_ca (goodIn_ca (goodIn_r _ [463, 108, 464, 465, 466, 467, 2, 468, 19, 403, 404, 405, 117, 118, 469, 429, 430, 21, 431, 414, 47, 470, 471, 472, 473, 474, 475, 437, 438, 439, 428, 1256, 1257, 1258, 1259, 1260, 1261, 1262, 1263, 1280, 1281] (by decide +kernel) (by decide +kernel)) (goodIn_sub (fun _ h => List.mem_append_left _ (List.mem_append_left _ (List.mem_append_left _ (List.mem_append_left _ (List.mem_append_right _ h))))) (by decide +kernel))) (goodIn_sub (fun _ h => List.mem_append_left _ (List.mem_append_right _ h)) (by decide +kernel))
set_option maxRecDepth 20000 in
theorem gL_law_L_sample : GoodIn wsL_law (va_wsS RL 187 yL_sample wsL_sample) := goodIn_app (goodIn_of _ (by decide +kernel)) ggL_law_L_sample
set_option maxRecDepth 20000 in
theorem ggL_law_X11_sample : GoodIn wsL_law wsX11_sample := goodIn_r _ [479, 81, 88, 445, 446, 447, 5, 448, 131, 132, 133, 1264, 1265, 1266, 1267, 1268, 1269, 1270, 1271, 1272, 1273] (by decide +kernel) (by decide +kernel)
set_option maxRecDepth 20000 in
theorem gL_law_X11_sample : GoodIn wsL_law (wsV RL 189 RX11 yX11_sample wsX11_sample) := goodIn_app (goodIn_of _ (by decide +kernel)) ggL_law_X11_sample
set_option maxRecDepth 20000 in
theorem ggL_law_L_runs : GoodIn wsL_law wsL_runs := goodIn_ca (goodIn_r _ [482, 108, 483, 484, 485, 2, 486, 19, 403, 404, 405, 117, 118, 114, 115, 116, 487, 488, 489, 21, 490, 414, 491, 492, 493, 494, 495, 496, 497, 498, 47, 428, 429, 430, 431, 1256, 1257, 1258, 1259, 1260, 1261, 1262, 1263, 1280, 1281] (by decide +kernel) (by decide +kernel)) (goodIn_sub (fun _ h => List.mem_append_left _ (List.mem_append_left _ (List.mem_append_left _ (List.mem_append_left _ (List.mem_append_right _ h))))) (by decide +kernel))
set_option maxRecDepth 20000 in
theorem gL_law_L_runs : GoodIn wsL_law (va_wsS RL 190 yL_runs wsL_runs) := goodIn_app (goodIn_of _ (by decide +kernel)) ggL_law_L_runs
set_option maxRecDepth 20000 in
theorem ggL_law_X11_runs : GoodIn wsL_law wsX11_runs := goodIn_r _ [502, 503, 504, 505, 5, 506, 88, 131, 132, 133, 127, 128, 129, 130, 507, 508, 509, 510, 82, 83, 84, 81, 511, 89, 90, 91, 92, 93, 94, 95, 96, 97, 98, 99, 100, 101, 102, 103, 12, 13, 512, 513, 514, 515, 516, 517, 518, 519, 520, 521, 290, 522, 523, 524, 525, 526, 527, 528, 529, 530, 531, 532, 533, 534, 535, 536, 537, 538, 539, 540, 541, 542, 543, 544, 545, 546, 547, 548, 549, 550, 551, 552, 553, 554, 555, 556, 412, 557, 558, 559, 560, 561, 562, 563, 564, 565, 566, 567, 568, 569, 417, 570, 571, 572, 573, 574, 575, 576, 577, 578, 579, 580, 411, 413, 581, 582, 583, 584, 585, 586, 587, 588, 589, 590, 591, 592, 593, 594, 595, 596, 597, 598, 599, 600, 601, 602, 603, 604, 605, 606, 607, 608, 609, 610, 611, 612, 1264, 1265, 1266, 1267, 1268, 1269, 1270, 1271, 1272, 1273, 1293, 1294, 1295, 1301] (by decide +kernel) (by decide +kernel)
set_option maxRecDepth 20000 in
theorem gL_law_X11_runs : GoodIn wsL_law (wsV RL 192 RX11 yX11_runs wsX11_runs) := goodIn_app (goodIn_of _ (by decide +kernel)) ggL_law_X11_runs
set_option maxRecDepth 20000 in
theorem ggL_law_L_run : GoodIn wsL_law wsL_run := goodIn_ca (goodIn_ca (goodIn_r _ [615, 108, 464, 616, 617, 618, 2, 619, 19, 403, 404, 405, 117, 118, 114, 115, 116, 620, 621, 622, 21, 623, 414, 491, 492, 493, 494, 495, 496, 497, 498, 47, 428, 429, 430, 431, 470, 471, 472, 473, 474, 1256, 1257, 1258, 1259, 1260, 1261, 1262, 1263, 1280, 1281] (by decide +kernel) (by decide +kernel)) (goodIn_sub (fun _ h => List.mem_append_left _ (List.mem_append_left _ (List.mem_append_left _ (List.mem_append_left _ (List.mem_append_right _ h))))) (by decide +kernel))) (goodIn_sub (fun _ h => List.mem_append_left _ (List.mem_append_right _ h)) (by decide +kernel))
set_option maxRecDepth 20000 in
theorem gL_law_L_run : GoodIn wsL_law (va_wsS RL 193 yL_run wsL_run) := goodIn_app (goodIn_of _ (by decide +kernel)) ggL_law_L_run
set_option maxRecDepth 20000 in
theorem ggL_law_X11_run : GoodIn wsL_law wsX11_run := goodIn_r _ [627, 88, 511, 503, 504, 505, 5, 506, 131, 132, 133, 127, 128, 129, 130, 507, 508, 509, 510, 82, 83, 84, 81, 89, 90, 91, 92, 93, 94, 95, 96, 97, 98, 99, 100, 101, 102, 103, 12, 13, 512, 513, 514, 515, 516, 517, 518, 519, 520, 521, 290, 522, 523, 524, 525, 526, 527, 528, 529, 530, 531, 532, 533, 534, 535, 536, 537, 538, 539, 540, 541, 542, 543, 544, 545, 546, 547, 548, 549, 550, 551, 552, 553, 554, 555, 556, 412, 557, 558, 559, 560, 561, 562, 563, 564, 565, 566, 567, 568, 569, 417, 570, 571, 572, 573, 574, 575, 576, 577, 578, 579, 580, 411, 413, 581, 582, 583, 584, 585, 586, 587, 588, 589, 590, 591, 592, 593, 594, 595, 596, 597, 598, 599, 600, 601, 602, 603, 604, 605, 606, 607, 608, 609, 610, 611, 612, 1264, 1265, 1266, 1267, 1268, 1269, 1270, 1271, 1272, 1273, 1293, 1294, 1295, 1301] (by decide +kernel) (by decide +kernel)
set_option maxRecDepth 20000 in
theorem gL_law_X11_run : GoodIn wsL_law (wsV RL 195 RX11 yX11_run wsX11_run) := goodIn_app (goodIn_of _ (by decide +kernel)) ggL_law_X11_run
set_option maxRecDepth 20000 in
theorem ggL_law_L_shortest : GoodIn wsL_law wsL_shortest := goodIn_ca (goodIn_ca (goodIn_r _ [630, 108, 464, 631, 632, 633, 2, 634, 635, 636, 637, 638, 19, 403, 404, 405, 117, 118, 114, 115, 116, 639, 640, 641, 21, 642, 414, 491, 492, 493, 494, 495, 496, 497, 498, 47, 428, 429, 430, 431, 470, 471, 472, 473, 474, 1256, 1257, 1258, 1259, 1260, 1261, 1262, 1263, 1280, 1281] (by decide +kernel) (by decide +kernel)) (goodIn_sub (fun _ h => List.mem_append_left _ (List.mem_append_left _ (List.mem_append_left _ (List.mem_append_left _ (List.mem_append_right _ h))))) (by decide +kernel))) (goodIn_sub (fun _ h => List.mem_append_left _ (List.mem_append_right _ h)) (by decide +kernel))
set_option maxRecDepth 20000 in
theorem gL_law_L_shortest : GoodIn wsL_law (va_wsS RL 196 yL_shortest wsL_shortest) := goodIn_app (goodIn_of _ (by decide +kernel)) ggL_law_L_shortest
set_option maxRecDepth 20000 in
theorem ggL_law_X11_shortest : GoodIn wsL_law wsX11_shortest := goodIn_r _ [646, 511, 647, 411, 412, 413, 88, 503, 504, 505, 5, 506, 131, 132, 133, 127, 128, 129, 130, 507, 508, 509, 510, 82, 83, 84, 81, 89, 90, 91, 92, 93, 94, 95, 96, 97, 98, 99, 100, 101, 102, 103, 12, 13, 512, 513, 514, 515, 516, 517, 518, 519, 520, 521, 290, 522, 523, 524, 525, 526, 527, 528, 529, 530, 531, 532, 533, 534, 535, 536, 537, 538, 539, 540, 541, 542, 543, 544, 545, 546, 547, 548, 549, 550, 551, 552, 553, 554, 555, 556, 557, 558, 559, 560, 561, 562, 563, 564, 565, 566, 567, 568, 569, 417, 570, 571, 572, 573, 574, 575, 576, 577, 578, 579, 580, 581, 582, 583, 584, 585, 586, 587, 588, 589, 590, 591, 592, 593, 594, 595, 596, 597, 598, 599, 600, 601, 602, 603, 604, 605, 606, 607, 608, 609, 610, 611, 612, 1264, 1265, 1266, 1267, 1268, 1269, 1270, 1271, 1272, 1273, 1293, 1294, 1295, 1301] (by decide +kernel) (by decide +kernel)
set_option maxRecDepth 20000 in
theorem gL_law_X11_shortest : GoodIn wsL_law (wsV RL 198 RX11 yX11_shortest wsX11_shortest) := goodIn_app (goodIn_of _ (by decide +kernel)) ggL_law_X11_shortest
set_option maxRecDepth 20000 in
theorem ggL_law_L_block : GoodIn wsL_law wsL_block := goodIn_ca (goodIn_ca (goodIn_ca (goodIn_r _ [650, 108, 141, 464, 651, 652, 653, 2, 654, 19, 403, 404, 405, 117, 118, 114, 115, 116, 148, 149, 150, 151, 152, 655, 656, 657, 21, 658, 414, 470, 471, 472, 473, 474, 659, 660, 661, 662, 410, 411, 412, 413, 491, 492, 493, 494, 495, 496, 497, 498, 47, 428, 429, 430, 431, 1256, 1257, 1258, 1259, 1260, 1261, 1262, 1263, 1280, 1281] (by decide +kernel) (by decide +kernel)) (goodIn_sub (fun _ h => List.mem_append_left _ (List.mem_append_left _ (List.mem_append_left _ (List.mem_append_left _ (List.mem_append_right _ h))))) (by decide +kernel))) (goodIn_sub (fun _ h => List.mem_append_left _ (List.mem_append_left _ (List.mem_append_left _ (List.mem_append_right _ h)))) (by decide +kernel))) (goodIn_sub (fun _ h => List.mem_append_left _ (List.mem_append_right _ h)) (by decide +kernel))
set_option maxRecDepth 20000 in
theorem gL_law_L_block : GoodIn wsL_law (va_wsS RL 199 yL_block wsL_block) := goodIn_app (goodIn_of _ (by decide +kernel)) ggL_law_L_block
set_option maxRecDepth 20000 in
theorem ggL_law_X11_block : GoodIn wsL_law wsX11_block := goodIn_r _ [666, 667, 88, 81, 668, 556, 412, 557, 647, 411, 413, 503, 504, 505, 5, 506, 131, 132, 133, 127, 128, 129, 130, 516, 517, 518, 519, 1264, 1265, 1266, 1267, 1268, 1269, 1270, 1271, 1272, 1273] (by decide +kernel) (by decide +kernel)
set_option maxRecDepth 20000 in
theorem gL_law_X11_block : GoodIn wsL_law (wsV RL 201 RX11 yX11_block wsX11_block) := goodIn_app (goodIn_of _ (by decide +kernel)) ggL_law_X11_block
set_option maxRecDepth 20000 in
theorem ggL_law_L_step : GoodIn wsL_law wsL_step := goodIn_ca (goodIn_ca (goodIn_ca (goodIn_r _ [671, 108, 141, 142, 672, 673, 674, 2, 675, 25, 676, 114, 115, 116, 117, 118, 677, 678, 679, 151, 152, 148, 149, 150, 680, 681, 682, 683, 179, 180, 684, 685, 686, 24, 687, 688, 53, 54, 55, 1256, 1257, 1258, 1259, 1260, 1261, 1262, 1263, 1282, 1283, 1284, 1285] (by decide +kernel) (by decide +kernel)) (goodIn_sub (fun _ h => List.mem_append_left _ (List.mem_append_left _ (List.mem_append_left _ (List.mem_append_left _ (List.mem_append_right _ h))))) (by decide +kernel))) (goodIn_sub (fun _ h => List.mem_append_left _ (List.mem_append_left _ (List.mem_append_left _ (List.mem_append_right _ h)))) (by decide +kernel))) (goodIn_sub (fun _ h => List.mem_append_left _ (List.mem_append_left _ (List.mem_append_right _ h))) (by decide +kernel))
set_option maxRecDepth 20000 in
theorem gL_law_L_step : GoodIn wsL_law (va_wsS RL 202 yL_step wsL_step) := goodIn_app (goodIn_of _ (by decide +kernel)) ggL_law_L_step
set_option maxRecDepth 20000 in
theorem ggL_law_X11_step : GoodIn wsL_law wsX11_step := goodIn_r _ [692, 88, 444, 370, 85, 693, 694, 695, 127, 128, 5, 129, 130, 131, 132, 133, 696, 697, 698, 699, 700, 701, 702, 703, 704, 705, 706, 707, 708, 709, 710, 711, 712, 713, 714, 715, 716, 717, 718, 719, 720, 721, 722, 723, 724, 556, 412, 557, 725, 411, 413, 726, 727, 728, 729, 730, 731, 732, 733, 734, 735, 736, 737, 738, 739, 740, 741, 742, 743, 744, 745, 746, 747, 748, 749, 750, 751, 752, 753, 599, 754, 755, 756, 757, 758, 759, 760, 761, 762, 763, 764, 765, 766, 767, 768, 769, 770, 771, 772, 773, 774, 775, 776, 777, 778, 585, 586, 587, 84, 588, 542, 779, 780, 781, 782, 12, 13, 783, 784, 785, 536, 537, 538, 539, 540, 541, 93, 543, 544, 545, 546, 547, 548, 549, 550, 551, 552, 553, 554, 92, 555, 558, 559, 560, 561, 562, 563, 564, 565, 566, 567, 568, 569, 417, 570, 571, 572, 573, 574, 575, 576, 577, 578, 579, 580, 581, 582, 583, 584, 1264, 1265, 1266, 1267, 1268, 1269, 1270, 1271, 1272, 1273, 1302, 1303, 1304, 1293, 1294, 1295] (by decide +kernel) (by decide +kernel)
set_option maxRecDepth 20000 in
theorem gL_law_X11_step : GoodIn wsL_law (wsV RL 205 RX11 yX11_step wsX11_step) := goodIn_app (goodIn_of _ (by decide +kernel)) ggL_law_X11_step
set_option maxRecDepth 20000 in
theorem ggL_law_X7_reset : GoodIn wsL_law wsX7_reset := goodIn_r _ [789, 25, 676, 1256, 1257, 1258, 1259, 1260, 1261, 1262, 1263, 1282, 1283, 1284, 1285] (by decide +kernel) (by decide +kernel)
set_option maxRecDepth 20000 in
theorem gL_law_X7_reset : GoodIn wsL_law (wsV RL 206 RX7 yX7_reset wsX7_reset) := goodIn_app (goodIn_of _ (by decide +kernel)) ggL_law_X7_reset
set_option maxRecDepth 20000 in
theorem ggL_law_X11_reset : GoodIn wsL_law wsX11_reset := goodIn_r _ [793, 88, 85, 585, 586, 587, 84, 588, 542, 794, 795, 796, 797, 540, 541, 93, 1264, 1265, 1266, 1267, 1268, 1269, 1270, 1271, 1272, 1273, 1293, 1294, 1295] (by decide +kernel) (by decide +kernel)
set_option maxRecDepth 20000 in
theorem gL_law_X11_reset : GoodIn wsL_law (wsV RL 209 RX11 yX11_reset wsX11_reset) := goodIn_app (goodIn_of _ (by decide +kernel)) ggL_law_X11_reset
set_option maxRecDepth 20000 in
theorem ggL_law_L_trigger : GoodIn wsL_law wsL_trigger := goodIn_ca (goodIn_ca (goodIn_ca (goodIn_r _ [800, 108, 801, 464, 802, 803, 804, 2, 805, 25, 676, 19, 403, 404, 405, 117, 118, 806, 807, 808, 809, 810, 811, 812, 813, 24, 814, 688, 53, 54, 55, 815, 816, 817, 818, 819, 820, 821, 822, 823, 824, 21, 825, 495, 496, 497, 498, 47, 428, 429, 430, 431, 414, 826, 827, 828, 829, 830, 831, 437, 438, 439, 470, 471, 472, 473, 474, 1256, 1257, 1258, 1259, 1260, 1261, 1262, 1263, 1282, 1283, 1284, 1285, 1280, 1281] (by decide +kernel) (by decide +kernel)) (goodIn_sub (fun _ h => List.mem_append_left _ (List.mem_append_left _ (List.mem_append_left _ (List.mem_append_left _ (List.mem_append_right _ h))))) (by decide +kernel))) (goodIn_sub (fun _ h => List.mem_append_right _ h) (by decide +kernel))) (goodIn_sub (fun _ h => List.mem_append_left _ (List.mem_append_right _ h)) (by decide +kernel))
set_option maxRecDepth 20000 in
theorem gL_law_L_trigger : GoodIn wsL_law (va_wsS RL 210 yL_trigger wsL_trigger) := goodIn_app (goodIn_of _ (by decide +kernel)) ggL_law_L_trigger
set_option maxRecDepth 20000 in
theorem ggL_law_X11_trigger : GoodIn wsL_law wsX11_trigger := goodIn_r _ [835, 85, 88, 836, 445, 446, 447, 5, 448, 131, 132, 133, 837, 838, 839, 84, 840, 542, 841, 842, 843, 844, 845, 846, 847, 848, 849, 850, 851, 852, 12, 13, 853, 854, 541, 855, 856, 857, 858, 859, 860, 861, 862, 863, 864, 865, 866, 867, 868, 869, 870, 871, 872, 873, 81, 874, 875, 876, 877, 512, 513, 514, 515, 516, 517, 518, 519, 878, 879, 880, 881, 1264, 1265, 1266, 1267, 1268, 1269, 1270, 1271, 1272, 1273, 1293, 1294, 1295, 1305, 1306, 1307, 1308, 1302, 1303, 1304] (by decide +kernel) (by decide +kernel)
set_option maxRecDepth 20000 in
theorem gL_law_X11_trigger : GoodIn wsL_law (wsV RL 212 RX11 yX11_trigger wsX11_trigger) := goodIn_app (goodIn_of _ (by decide +kernel)) ggL_law_X11_trigger
set_option maxRecDepth 20000 in
theorem ggL_law_L_decodeSerial : GoodIn wsL_law wsL_decodeSerial := goodIn_ca (goodIn_ca (goodIn_r _ [884, 108, 141, 885, 886, 887, 2, 888, 29, 889, 19, 456, 403, 404, 405, 117, 118, 114, 115, 116, 148, 149, 150, 151, 152, 276, 277, 278, 890, 827, 828, 21, 829, 495, 496, 497, 498, 47, 428, 429, 430, 431, 414, 891, 892, 893, 894, 279, 280, 281, 895, 896, 897, 898, 285, 286, 287, 288, 289, 290, 291, 292, 293, 294, 899, 900, 901, 28, 902, 903, 60, 61, 62, 63, 64, 1256, 1257, 1258, 1259, 1260, 1261, 1262, 1263, 1286, 1287, 1288, 1289, 1290, 1291, 1280, 1281] (by decide +kernel) (by decide +kernel)) (goodIn_sub (fun _ h => List.mem_append_left _ (List.mem_append_left _ (List.mem_append_left _ (List.mem_append_left _ (List.mem_append_right _ h))))) (by decide +kernel))) (goodIn_sub (fun _ h => List.mem_append_left _ (List.mem_append_left _ (List.mem_append_left _ (List.mem_append_right _ h)))) (by decide +kernel))
set_option maxRecDepth 20000 in
theorem gL_law_L_decodeSerial : GoodIn wsL_law (va_wsS RL 213 yL_decodeSerial wsL_decodeSerial) := goodIn_app (goodIn_of _ (by decide +kernel)) ggL_law_L_decodeSerial
set_option maxRecDepth 20000 in
theorem ggL_law_X11_decodeSerial : GoodIn wsL_law wsX11_decodeSerial := goodIn_r _ [907, 908, 909, 88, 86, 81, 503, 504, 505, 5, 506, 131, 132, 133, 127, 128, 129, 130, 316, 317, 318, 794, 795, 796, 84, 797, 540, 541, 93, 542, 878, 879, 880, 881, 512, 513, 514, 515, 516, 517, 518, 519, 910, 911, 912, 913, 914, 915, 916, 585, 586, 587, 588, 917, 918, 919, 920, 12, 13, 921, 922, 923, 924, 925, 536, 537, 538, 539, 543, 544, 545, 546, 547, 548, 549, 550, 551, 552, 553, 554, 92, 555, 556, 412, 557, 558, 559, 560, 561, 562, 563, 564, 565, 566, 567, 568, 569, 417, 570, 571, 572, 573, 574, 575, 576, 577, 578, 579, 580, 411, 413, 581, 582, 583, 584, 1264, 1265, 1266, 1267, 1268, 1269, 1270, 1271, 1272, 1273, 1293, 1294, 1295, 1309, 1310, 1311, 1312, 1313] (by decide +kernel) (by decide +kernel)
set_option maxRecDepth 20000 in
theorem gL_law_X11_decodeSerial : GoodIn wsL_law (wsV RL 216 RX11 yX11_decodeSerial wsX11_decodeSerial) := goodIn_app (goodIn_of _ (by decide +kernel)) ggL_law_X11_decodeSerial
set_option maxRecDepth 20000 in
theorem ggL_law_L_decodeTwo : GoodIn wsL_law wsL_decodeTwo := goodIn_ca (goodIn_ca (goodIn_r _ [928, 108, 141, 929, 930, 931, 2, 932, 29, 889, 19, 933, 934, 935, 33, 456, 403, 404, 405, 117, 118, 114, 115, 116, 355, 356, 357, 151, 152, 936, 937, 938, 939, 12, 13, 940, 941, 942, 823, 824, 21, 825, 495, 496, 497, 498, 47, 428, 429, 430, 431, 414, 898, 943, 944, 945, 946, 947, 948, 949, 950, 951, 952, 953, 954, 955, 956, 957, 958, 959, 900, 901, 28, 902, 903, 60, 61, 62, 63, 64, 960, 961, 962, 32, 963, 69, 890, 827, 828, 829, 964, 965, 966, 967, 968, 969, 970, 971, 1256, 1257, 1258, 1259, 1260, 1261, 1262, 1263, 1286, 1287, 1288, 1289, 1290, 1291, 1314, 1315, 1316, 1317, 1318, 1319, 1320, 1321, 1322, 1323, 1280, 1281, 1292] (by decide +kernel) (by decide +kernel)) (goodIn_sub (fun _ h => List.mem_append_left _ (List.mem_append_left _ (List.mem_append_left _ (List.mem_append_left _ (List.mem_append_right _ h))))) (by decide +kernel))) (goodIn_sub (fun _ h => List.mem_append_left _ (List.mem_append_left _ (List.mem_append_left _ (List.mem_append_right _ h)))) (by decide +kernel))
set_option maxRecDepth 20000 in
theorem gL_law_L_decodeTwo : GoodIn wsL_law (va_wsS RL 217 yL_decodeTwo wsL_decodeTwo) := goodIn_app (goodIn_of _ (by decide +kernel)) ggL_law_L_decodeTwo
set_option maxRecDepth 20000 in
theorem ggL_law_X11_decodeTwo : GoodIn wsL_law wsX11_decodeTwo := goodIn_r _ [975, 88, 86, 81, 87, 131, 132, 5, 133, 127, 128, 129, 130, 794, 795, 796, 84, 797, 540, 541, 93, 542, 516, 517, 518, 519, 512, 513, 514, 515, 878, 879, 880, 881, 910, 911, 912, 913, 914, 915, 916, 585, 586, 587, 588, 917, 918, 919, 920, 12, 13, 921, 922, 923, 924, 925, 536, 537, 538, 539, 543, 544, 545, 546, 547, 548, 549, 550, 551, 552, 553, 554, 92, 555, 556, 412, 557, 558, 559, 560, 561, 562, 563, 564, 565, 566, 567, 568, 569, 417, 570, 571, 572, 573, 574, 575, 576, 577, 578, 579, 580, 411, 413, 581, 582, 583, 584, 874, 875, 876, 877, 1264, 1265, 1266, 1267, 1268, 1269, 1270, 1271, 1272, 1273, 1293, 1294, 1295, 1309, 1310, 1311, 1312, 1313] (by decide +kernel) (by decide +kernel)
set_option maxRecDepth 20000 in
theorem gL_law_X11_decodeTwo : GoodIn wsL_law (wsV RL 219 RX11 yX11_decodeTwo wsX11_decodeTwo) := goodIn_app (goodIn_of _ (by decide +kernel)) ggL_law_X11_decodeTwo
set_option maxRecDepth 20000 in
theorem ggL_law_L_decodeFour : GoodIn wsL_law wsL_decodeFour := goodIn_ca (goodIn_ca (goodIn_r _ [978, 108, 141, 979, 980, 981, 2, 982, 29, 889, 19, 983, 984, 985, 456, 403, 404, 405, 117, 118, 114, 115, 116, 378, 379, 380, 355, 356, 357, 151, 152, 148, 149, 150, 986, 987, 988, 989, 12, 13, 990, 942, 823, 824, 21, 825, 495, 496, 497, 498, 47, 428, 429, 430, 431, 414, 991, 992, 993, 994, 995, 996, 997, 998, 900, 901, 28, 902, 903, 60, 61, 62, 63, 64, 898, 890, 827, 828, 829, 999, 1000, 1001, 1002, 1256, 1257, 1258, 1259, 1260, 1261, 1262, 1263, 1286, 1287, 1288, 1289, 1290, 1291, 1324, 1325, 1326, 1327, 1280, 1281] (by decide +kernel) (by decide +kernel)) (goodIn_sub (fun _ h => List.mem_append_left _ (List.mem_append_left _ (List.mem_append_left _ (List.mem_append_left _ (List.mem_append_right _ h))))) (by decide +kernel))) (goodIn_sub (fun _ h => List.mem_append_left _ (List.mem_append_left _ (List.mem_append_left _ (List.mem_append_right _ h)))) (by decide +kernel))
set_option maxRecDepth 20000 in
theorem gL_law_L_decodeFour : GoodIn wsL_law (va_wsS RL 220 yL_decodeFour wsL_decodeFour) := goodIn_app (goodIn_of _ (by decide +kernel)) ggL_law_L_decodeFour
set_option maxRecDepth 20000 in
theorem ggL_law_X11_decodeFour : GoodIn wsL_law wsX11_decodeFour := goodIn_r _ [1006, 88, 130, 86, 81, 131, 132, 5, 133, 127, 128, 129, 794, 795, 796, 84, 797, 540, 541, 93, 542, 516, 517, 518, 519, 874, 875, 876, 877, 512, 513, 514, 515, 878, 879, 880, 881, 910, 911, 912, 913, 914, 915, 916, 585, 586, 587, 588, 917, 918, 919, 920, 12, 13, 921, 922, 923, 924, 925, 536, 537, 538, 539, 543, 544, 545, 546, 547, 548, 549, 550, 551, 552, 553, 554, 92, 555, 556, 412, 557, 558, 559, 560, 561, 562, 563, 564, 565, 566, 567, 568, 569, 417, 570, 571, 572, 573, 574, 575, 576, 577, 578, 579, 580, 411, 413, 581, 582, 583, 584, 1264, 1265, 1266, 1267, 1268, 1269, 1270, 1271, 1272, 1273, 1293, 1294, 1295, 1309, 1310, 1311, 1312, 1313] (by decide +kernel) (by decide +kernel)
set_option maxRecDepth 20000 in
theorem gL_law_X11_decodeFour : GoodIn wsL_law (wsV RL 223 RX11 yX11_decodeFour wsX11_decodeFour) := goodIn_app (goodIn_of _ (by decide +kernel)) ggL_law_X11_decodeFour
set_option maxRecDepth 20000 in
theorem ggL_law_X7_notes : GoodIn wsL_law wsX7_notes := goodIn_r _ [1010, 29, 889, 1256, 1257, 1258, 1259, 1260, 1261, 1262, 1263, 1286, 1287, 1288, 1289, 1290, 1291] (by decide +kernel) (by decide +kernel)
set_option maxRecDepth 20000 in
theorem gL_law_X7_notes : GoodIn wsL_law (wsV RL 224 RX7 yX7_notes wsX7_notes) := goodIn_app (goodIn_of _ (by decide +kernel)) ggL_law_X7_notes
set_option maxRecDepth 20000 in
theorem ggL_law_X11_notes_ : GoodIn wsL_law wsX11_notes_ := goodIn_r _ [1014, 88, 86, 585, 586, 587, 84, 588, 542, 1264, 1265, 1266, 1267, 1268, 1269, 1270, 1271, 1272, 1273, 1293, 1294, 1295] (by decide +kernel) (by decide +kernel)
set_option maxRecDepth 20000 in
theorem gL_law_X11_notes_ : GoodIn wsL_law (wsV RL 227 RX11 yX11_notes_ wsX11_notes_) := goodIn_app (goodIn_of _ (by decide +kernel)) ggL_law_X11_notes_
set_option maxRecDepth 20000 in
theorem ggL_law_L_kind : GoodIn wsL_law wsL_kind := goodIn_ca (goodIn_r _ [1017, 108, 1018, 1019, 1020, 2, 1021, 29, 1022, 1023, 1024, 1025, 1026, 117, 118, 889, 1256, 1257, 1258, 1259, 1260, 1261, 1262, 1263, 1286, 1287, 1288, 1289, 1290, 1291] (by decide +kernel) (by decide +kernel)) (goodIn_sub (fun _ h => List.mem_append_left _ (List.mem_append_left _ (List.mem_append_left _ (List.mem_append_left _ (List.mem_append_right _ h))))) (by decide +kernel))
set_option maxRecDepth 20000 in
theorem gL_law_L_kind : GoodIn wsL_law (va_wsS RL 228 yL_kind wsL_kind) := goodIn_app (goodIn_of _ (by decide +kernel)) ggL_law_L_kind
set_option maxRecDepth 20000 in
theorem ggL_law_X11_kind : GoodIn wsL_law wsX11_kind := goodIn_r _ [1030, 86, 1031, 1032, 1033, 1034, 5, 1035, 88, 585, 586, 587, 84, 588, 542, 131, 132, 133, 589, 590, 591, 592, 593, 594, 595, 596, 597, 598, 599, 600, 601, 602, 603, 604, 93, 1264, 1265, 1266, 1267, 1268, 1269, 1270, 1271, 1272, 1273, 1309, 1310, 1311, 1312, 1313, 1293, 1294, 1295] (by decide +kernel) (by decide +kernel)
set_option maxRecDepth 20000 in
theorem gL_law_X11_kind : GoodIn wsL_law (wsV RL 230 RX11 yX11_kind wsX11_kind) := goodIn_app (goodIn_of _ (by decide +kernel)) ggL_law_X11_kind
set_option maxRecDepth 20000 in
theorem ggL_law_L_begin : GoodIn wsL_law wsL_begin := goodIn_ca (goodIn_r _ [1038, 108, 1039, 1040, 1041, 2, 1042, 29, 1043, 1023, 1024, 1025, 1026, 117, 118, 889, 1256, 1257, 1258, 1259, 1260, 1261, 1262, 1263, 1286, 1287, 1288, 1289, 1290, 1291] (by decide +kernel) (by decide +kernel)) (goodIn_sub (fun _ h => List.mem_append_left _ (List.mem_append_left _ (List.mem_append_left _ (List.mem_append_left _ (List.mem_append_right _ h))))) (by decide +kernel))
set_option maxRecDepth 20000 in
theorem gL_law_L_begin : GoodIn wsL_law (va_wsS RL 231 yL_begin wsL_begin) := goodIn_app (goodIn_of _ (by decide +kernel)) ggL_law_L_begin
set_option maxRecDepth 20000 in
theorem ggL_law_X11_begin : GoodIn wsL_law wsX11_begin := goodIn_r _ [1047, 86, 1031, 1032, 1033, 1034, 5, 1035, 88, 585, 586, 587, 84, 588, 542, 131, 132, 133, 589, 590, 591, 592, 593, 594, 595, 596, 597, 598, 599, 600, 601, 602, 603, 604, 93, 1264, 1265, 1266, 1267, 1268, 1269, 1270, 1271, 1272, 1273, 1309, 1310, 1311, 1312, 1313, 1293, 1294, 1295] (by decide +kernel) (by decide +kernel)
set_option maxRecDepth 20000 in
theorem gL_law_X11_begin : GoodIn wsL_law (wsV RL 233 RX11 yX11_begin wsX11_begin) := goodIn_app (goodIn_of _ (by decide +kernel)) ggL_law_X11_begin
set_option maxRecDepth 20000 in
theorem ggL_law_L_end : GoodIn wsL_law wsL_end := goodIn_ca (goodIn_r _ [1050, 108, 1051, 1052, 1053, 2, 1054, 29, 1055, 1023, 1024, 1025, 1026, 117, 118, 889, 1256, 1257, 1258, 1259, 1260, 1261, 1262, 1263, 1286, 1287, 1288, 1289, 1290, 1291] (by decide +kernel) (by decide +kernel)) (goodIn_sub (fun _ h => List.mem_append_left _ (List.mem_append_left _ (List.mem_append_left _ (List.mem_append_left _ (List.mem_append_right _ h))))) (by decide +kernel))
set_option maxRecDepth 20000 in
theorem gL_law_L_end : GoodIn wsL_law (va_wsS RL 234 yL_end wsL_end) := goodIn_app (goodIn_of _ (by decide +kernel)) ggL_law_L_end
set_option maxRecDepth 20000 in
theorem ggL_law_X11_end : GoodIn wsL_law wsX11_end := goodIn_r _ [1059, 86, 1031, 1032, 1033, 1034, 5, 1035, 88, 585, 586, 587, 84, 588, 542, 131, 132, 133, 589, 590, 591, 592, 593, 594, 595, 596, 597, 598, 599, 600, 601, 602, 603, 604, 93, 1264, 1265, 1266, 1267, 1268, 1269, 1270, 1271, 1272, 1273, 1309, 1310, 1311, 1312, 1313, 1293, 1294, 1295] (by decide +kernel) (by decide +kernel)
set_option maxRecDepth 20000 in
theorem gL_law_X11_end : GoodIn wsL_law (wsV RL 236 RX11 yX11_end wsX11_end) := goodIn_app (goodIn_of _ (by decide +kernel)) ggL_law_X11_end
set_option maxRecDepth 20000 in
theorem ggL_law_L_value : GoodIn wsL_law wsL_value := goodIn_ca (goodIn_r _ [1062, 108, 1063, 1064, 1065, 2, 1066, 29, 1067, 1023, 1024, 1025, 1026, 117, 118, 889, 1256, 1257, 1258, 1259, 1260, 1261, 1262, 1263, 1286, 1287, 1288, 1289, 1290, 1291] (by decide +kernel) (by decide +kernel)) (goodIn_sub (fun _ h => List.mem_append_left _ (List.mem_append_left _ (List.mem_append_left _ (List.mem_append_left _ (List.mem_append_right _ h))))) (by decide +kernel))
set_option maxRecDepth 20000 in
theorem gL_law_L_value : GoodIn wsL_law (va_wsS RL 237 yL_value wsL_value) := goodIn_app (goodIn_of _ (by decide +kernel)) ggL_law_L_value
set_option maxRecDepth 20000 in
theorem ggL_law_X11_value : GoodIn wsL_law wsX11_value := goodIn_r _ [1071, 86, 1031, 1032, 1033, 1034, 5, 1035, 88, 585, 586, 587, 84, 588, 542, 131, 132, 133, 589, 590, 591, 592, 593, 594, 595, 596, 597, 598, 599, 600, 601, 602, 603, 604, 93, 1264, 1265, 1266, 1267, 1268, 1269, 1270, 1271, 1272, 1273, 1309, 1310, 1311, 1312, 1313, 1293, 1294, 1295] (by decide +kernel) (by decide +kernel)
set_option maxRecDepth 20000 in
theorem gL_law_X11_value : GoodIn wsL_law (wsV RL 239 RX11 yX11_value wsX11_value) := goodIn_app (goodIn_of _ (by decide +kernel)) ggL_law_X11_value
set_option maxRecDepth 20000 in
theorem ggL_law_L_fault : GoodIn wsL_law wsL_fault := goodIn_ca (goodIn_r _ [1074, 108, 1075, 1076, 1077, 2, 1078, 29, 1079, 1023, 1024, 1025, 1026, 117, 118, 889, 1256, 1257, 1258, 1259, 1260, 1261, 1262, 1263, 1286, 1287, 1288, 1289, 1290, 1291] (by decide +kernel) (by decide +kernel)) (goodIn_sub (fun _ h => List.mem_append_left _ (List.mem_append_left _ (List.mem_append_left _ (List.mem_append_left _ (List.mem_append_right _ h))))) (by decide +kernel))
set_option maxRecDepth 20000 in
theorem gL_law_L_fault : GoodIn wsL_law (va_wsS RL 240 yL_fault wsL_fault) := goodIn_app (goodIn_of _ (by decide +kernel)) ggL_law_L_fault
set_option maxRecDepth 20000 in
theorem ggL_law_X11_fault : GoodIn wsL_law wsX11_fault := goodIn_r _ [1083, 86, 1031, 1032, 1033, 1034, 5, 1035, 88, 585, 586, 587, 84, 588, 542, 131, 132, 133, 589, 590, 591, 592, 593, 594, 595, 596, 597, 598, 599, 600, 601, 602, 603, 604, 93, 1264, 1265, 1266, 1267, 1268, 1269, 1270, 1271, 1272, 1273, 1309, 1310, 1311, 1312, 1313, 1293, 1294, 1295] (by decide +kernel) (by decide +kernel)
set_option maxRecDepth 20000 in
theorem gL_law_X11_fault : GoodIn wsL_law (wsV RL 242 RX11 yX11_fault wsX11_fault) := goodIn_app (goodIn_of _ (by decide +kernel)) ggL_law_X11_fault
set_option maxRecDepth 20000 in
theorem ggL_law_L_rate : GoodIn wsL_law wsL_rate := goodIn_ca (goodIn_ca (goodIn_r _ [1086, 108, 464, 1087, 1088, 1089, 2, 1090, 635, 636, 637, 638, 19, 403, 404, 405, 117, 118, 114, 115, 116, 639, 640, 641, 21, 642, 414, 491, 492, 493, 494, 495, 496, 497, 498, 47, 428, 429, 430, 431, 470, 471, 472, 473, 474, 1256, 1257, 1258, 1259, 1260, 1261, 1262, 1263, 1280, 1281] (by decide +kernel) (by decide +kernel)) (goodIn_sub (fun _ h => List.mem_append_left _ (List.mem_append_left _ (List.mem_append_left _ (List.mem_append_left _ (List.mem_append_right _ h))))) (by decide +kernel))) (goodIn_sub (fun _ h => List.mem_append_left _ (List.mem_append_right _ h)) (by decide +kernel))
set_option maxRecDepth 20000 in
theorem gL_law_L_rate : GoodIn wsL_law (va_wsS RL 243 yL_rate wsL_rate) := goodIn_app (goodIn_of _ (by decide +kernel)) ggL_law_L_rate
set_option maxRecDepth 20000 in
theorem ggL_law_X11_rate : GoodIn wsL_law wsX11_rate := goodIn_r _ [1094, 1095, 644, 645, 5, 646, 511, 647, 411, 412, 413, 88, 503, 504, 505, 506, 131, 132, 133, 127, 128, 129, 130, 507, 508, 509, 510, 82, 83, 84, 81, 89, 90, 91, 92, 93, 94, 95, 96, 97, 98, 99, 100, 101, 102, 103, 12, 13, 512, 513, 514, 515, 516, 517, 518, 519, 520, 521, 290, 522, 523, 524, 525, 526, 527, 528, 529, 530, 531, 532, 533, 534, 535, 536, 537, 538, 539, 540, 541, 542, 543, 544, 545, 546, 547, 548, 549, 550, 551, 552, 553, 554, 555, 556, 557, 558, 559, 560, 561, 562, 563, 564, 565, 566, 567, 568, 569, 417, 570, 571, 572, 573, 574, 575, 576, 577, 578, 579, 580, 581, 582, 583, 584, 585, 586, 587, 588, 589, 590, 591, 592, 593, 594, 595, 596, 597, 598, 599, 600, 601, 602, 603, 604, 605, 606, 607, 608, 609, 610, 611, 612, 1264, 1265, 1266, 1267, 1268, 1269, 1270, 1271, 1272, 1273, 1293, 1294, 1295, 1301] (by decide +kernel) (by decide +kernel)
set_option maxRecDepth 20000 in
theorem gL_law_X11_rate : GoodIn wsL_law (wsV RL 245 RX11 yX11_rate wsX11_rate) := goodIn_app (goodIn_of _ (by decide +kernel)) ggL_law_X11_rate
set_option maxRecDepth 20000 in
theorem ggL_law_L_register : GoodIn wsL_law wsL_register := goodIn_ca (goodIn_r _ [1098, 141, 1099, 1100, 1101, 2, 1102, 33, 148, 149, 150, 151, 152, 1103, 1104, 1105, 32, 1106, 69, 1256, 1257, 1258, 1259, 1260, 1261, 1262, 1263, 1292] (by decide +kernel) (by decide +kernel)) (goodIn_sub (fun _ h => List.mem_append_left _ (List.mem_append_left _ (List.mem_append_left _ (List.mem_append_right _ h)))) (by decide +kernel))
set_option maxRecDepth 20000 in
theorem gL_law_L_register : GoodIn wsL_law (va_wsS RL 246 yL_register wsL_register) := goodIn_app (goodIn_of _ (by decide +kernel)) ggL_law_L_register
set_option maxRecDepth 20000 in
theorem ggL_law_X11_register : GoodIn wsL_law wsX11_register := goodIn_r _ [1110, 369, 370, 88, 87, 131, 132, 5, 133, 1264, 1265, 1266, 1267, 1268, 1269, 1270, 1271, 1272, 1273] (by decide +kernel) (by decide +kernel)
set_option maxRecDepth 20000 in
theorem gL_law_X11_register : GoodIn wsL_law (wsV RL 248 RX11 yX11_register wsX11_register) := goodIn_app (goodIn_of _ (by decide +kernel)) ggL_law_X11_register
set_option maxRecDepth 20000 in
theorem ggL_law_L_follows : GoodIn wsL_law wsL_follows := goodIn_ca (goodIn_r _ [1113, 141, 1114, 1115, 1116, 2, 1117, 29, 148, 149, 150, 151, 152, 1118, 1119, 1120, 28, 1121, 903, 60, 63, 1256, 1257, 1258, 1259, 1260, 1261, 1262, 1263, 1286, 1287, 1288, 1289, 1290, 1291] (by decide +kernel) (by decide +kernel)) (goodIn_sub (fun _ h => List.mem_append_left _ (List.mem_append_left _ (List.mem_append_left _ (List.mem_append_right _ h)))) (by decide +kernel))
set_option maxRecDepth 20000 in
theorem gL_law_L_follows : GoodIn wsL_law (va_wsS RL 249 yL_follows wsL_follows) := goodIn_app (goodIn_of _ (by decide +kernel)) ggL_law_L_follows
set_option maxRecDepth 20000 in
theorem ggL_law_X11_follows : GoodIn wsL_law wsX11_follows := goodIn_r _ [1125, 311, 88, 86, 1031, 131, 132, 5, 133, 841, 842, 843, 84, 844, 845, 846, 847, 848, 849, 850, 851, 852, 12, 13, 853, 854, 541, 855, 856, 857, 858, 859, 860, 861, 862, 863, 864, 865, 866, 867, 868, 869, 1126, 1127, 1128, 916, 1129, 921, 1264, 1265, 1266, 1267, 1268, 1269, 1270, 1271, 1272, 1273, 1309, 1310, 1311, 1312, 1313, 1305, 1306, 1307, 1308, 1293, 1294, 1295] (by decide +kernel) (by decide +kernel)
set_option maxRecDepth 20000 in
theorem gL_law_X11_follows : GoodIn wsL_law (wsV RL 251 RX11 yX11_follows wsX11_follows) := goodIn_app (goodIn_of _ (by decide +kernel)) ggL_law_X11_follows
set_option maxRecDepth 20000 in
theorem ggL_law_L_alike : GoodIn wsL_law wsL_alike := goodIn_ca (goodIn_r _ [1132, 141, 1133, 1134, 1135, 2, 1136, 148, 149, 150, 151, 152, 1137, 1138, 1139, 1140, 19, 456, 469, 429, 430, 21, 431, 414, 47, 475, 437, 438, 439, 428, 1256, 1257, 1258, 1259, 1260, 1261, 1262, 1263, 1280, 1281] (by decide +kernel) (by decide +kernel)) (goodIn_sub (fun _ h => List.mem_append_left _ (List.mem_append_left _ (List.mem_append_left _ (List.mem_append_right _ h)))) (by decide +kernel))
set_option maxRecDepth 20000 in
theorem gL_law_L_alike : GoodIn wsL_law (va_wsS RL 252 yL_alike wsL_alike) := goodIn_app (goodIn_of _ (by decide +kernel)) ggL_law_L_alike
set_option maxRecDepth 20000 in
theorem ggL_law_X11_alike : GoodIn wsL_law wsX11_alike := goodIn_r _ [1144, 1145, 1146, 1147, 5, 1148, 1149, 1150, 88, 131, 132, 133, 1151, 1152, 1153, 1154, 81, 1264, 1265, 1266, 1267, 1268, 1269, 1270, 1271, 1272, 1273] (by decide +kernel) (by decide +kernel)
set_option maxRecDepth 20000 in
theorem gL_law_X11_alike : GoodIn wsL_law (wsV RL 254 RX11 yX11_alike wsX11_alike) := goodIn_app (goodIn_of _ (by decide +kernel)) ggL_law_X11_alike
set_option maxRecDepth 20000 in
theorem ggL_law_L_differs : GoodIn wsL_law wsL_differs := goodIn_ca (goodIn_ca (goodIn_r _ [1157, 141, 464, 1158, 1159, 1160, 2, 1161, 148, 149, 150, 151, 152, 1162, 1163, 1164, 1165, 19, 456, 469, 429, 430, 21, 431, 414, 47, 475, 437, 438, 439, 428, 470, 471, 472, 473, 474, 1256, 1257, 1258, 1259, 1260, 1261, 1262, 1263, 1280, 1281] (by decide +kernel) (by decide +kernel)) (goodIn_sub (fun _ h => List.mem_append_left _ (List.mem_append_left _ (List.mem_append_left _ (List.mem_append_right _ h)))) (by decide +kernel))) (goodIn_sub (fun _ h => List.mem_append_left _ (List.mem_append_right _ h)) (by decide +kernel))
set_option maxRecDepth 20000 in
theorem gL_law_L_differs : GoodIn wsL_law (va_wsS RL 255 yL_differs wsL_differs) := goodIn_app (goodIn_of _ (by decide +kernel)) ggL_law_L_differs
set_option maxRecDepth 20000 in
theorem ggL_law_X11_differs : GoodIn wsL_law wsX11_differs := goodIn_r _ [1169, 88, 1145, 1146, 1147, 5, 1148, 1149, 1150, 131, 132, 133, 1151, 1152, 1153, 1154, 81, 1264, 1265, 1266, 1267, 1268, 1269, 1270, 1271, 1272, 1273] (by decide +kernel) (by decide +kernel)
set_option maxRecDepth 20000 in
theorem gL_law_X11_differs : GoodIn wsL_law (wsV RL 257 RX11 yX11_differs wsX11_differs) := goodIn_app (goodIn_of _ (by decide +kernel)) ggL_law_X11_differs
set_option maxRecDepth 20000 in
theorem ggL_law_L_best : GoodIn wsL_law wsL_best := goodIn_ca (goodIn_ca (goodIn_r _ [1172, 141, 801, 1173, 1174, 1175, 2, 1176, 19, 456, 148, 149, 150, 151, 152, 806, 807, 808, 809, 810, 1137, 1138, 1139, 1140, 469, 429, 430, 21, 431, 414, 47, 475, 437, 438, 439, 428, 1256, 1257, 1258, 1259, 1260, 1261, 1262, 1263, 1280, 1281] (by decide +kernel) (by decide +kernel)) (goodIn_sub (fun _ h => List.mem_append_left _ (List.mem_append_left _ (List.mem_append_left _ (List.mem_append_right _ h)))) (by decide +kernel))) (goodIn_sub (fun _ h => List.mem_append_right _ h) (by decide +kernel))
set_option maxRecDepth 20000 in
theorem gL_law_L_best : GoodIn wsL_law (va_wsS RL 258 yL_best wsL_best) := goodIn_app (goodIn_of _ (by decide +kernel)) ggL_law_L_best
set_option maxRecDepth 20000 in
theorem ggL_law_X11_best : GoodIn wsL_law wsX11_best := goodIn_r _ [1180, 237, 81, 88, 131, 132, 5, 133, 1151, 1152, 1153, 1154, 1264, 1265, 1266, 1267, 1268, 1269, 1270, 1271, 1272, 1273] (by decide +kernel) (by decide +kernel)
set_option maxRecDepth 20000 in
theorem gL_law_X11_best : GoodIn wsL_law (wsV RL 260 RX11 yX11_best wsX11_best) := goodIn_app (goodIn_of _ (by decide +kernel)) ggL_law_X11_best
set_option maxRecDepth 20000 in
theorem ggL_law_X7_flips : GoodIn wsL_law wsX7_flips := goodIn_r _ [1184, 15, 147, 1256, 1257, 1258, 1259, 1260, 1261, 1262, 1263, 1274, 1275, 1276, 1277, 1278, 1279] (by decide +kernel) (by decide +kernel)
set_option maxRecDepth 20000 in
theorem gL_law_X7_flips : GoodIn wsL_law (wsV RL 261 RX7 yX7_flips wsX7_flips) := goodIn_app (goodIn_of _ (by decide +kernel)) ggL_law_X7_flips
set_option maxRecDepth 20000 in
theorem ggL_law_X11_flips : GoodIn wsL_law wsX11_flips := goodIn_r _ [1188, 88, 202, 203, 204, 5, 205, 77, 1264, 1265, 1266, 1267, 1268, 1269, 1270, 1271, 1272, 1273] (by decide +kernel) (by decide +kernel)
set_option maxRecDepth 20000 in
theorem gL_law_X11_flips : GoodIn wsL_law (wsV RL 264 RX11 yX11_flips wsX11_flips) := goodIn_app (goodIn_of _ (by decide +kernel)) ggL_law_X11_flips
set_option maxRecDepth 20000 in
theorem ggL_law_X7_checksum : GoodIn wsL_law wsX7_checksum := goodIn_r _ [1192, 1193, 19, 456, 1194, 29, 889, 1022, 1067, 475, 437, 438, 21, 439, 47, 428, 429, 430, 431, 414, 1256, 1257, 1258, 1259, 1260, 1261, 1262, 1263, 1280, 1281, 1286, 1287, 1288, 1289, 1290, 1291] (by decide +kernel) (by decide +kernel)
set_option maxRecDepth 20000 in
theorem gL_law_X7_checksum : GoodIn wsL_law (wsV RL 265 RX7 yX7_checksum wsX7_checksum) := goodIn_app (goodIn_of _ (by decide +kernel)) ggL_law_X7_checksum
set_option maxRecDepth 20000 in
theorem ggL_law_X11_checksum : GoodIn wsL_law wsX11_checksum := goodIn_r _ [1198, 88, 1199, 81, 1200, 86, 1031, 841, 842, 843, 84, 844, 845, 846, 847, 848, 849, 850, 851, 852, 12, 13, 853, 854, 541, 855, 856, 857, 858, 859, 860, 861, 862, 863, 864, 865, 866, 867, 868, 869, 1264, 1265, 1266, 1267, 1268, 1269, 1270, 1271, 1272, 1273, 1309, 1310, 1311, 1312, 1313, 1305, 1306, 1307, 1308, 1293, 1294, 1295] (by decide +kernel) (by decide +kernel)
set_option maxRecDepth 20000 in
theorem gL_law_X11_checksum : GoodIn wsL_law (wsV RL 269 RX11 yX11_checksum wsX11_checksum) := goodIn_app (goodIn_of _ (by decide +kernel)) ggL_law_X11_checksum
set_option maxRecDepth 20000 in
theorem ggL_law_L_highShare : GoodIn wsL_law wsL_highShare := goodIn_ca (goodIn_ca (goodIn_r _ [1203, 108, 464, 1204, 1205, 1206, 2, 1207, 19, 456, 403, 404, 405, 117, 118, 114, 115, 116, 470, 471, 472, 473, 474, 1208, 1209, 1210, 21, 1211, 414, 495, 496, 497, 498, 47, 428, 429, 430, 431, 1256, 1257, 1258, 1259, 1260, 1261, 1262, 1263, 1280, 1281] (by decide +kernel) (by decide +kernel)) (goodIn_sub (fun _ h => List.mem_append_left _ (List.mem_append_left _ (List.mem_append_left _ (List.mem_append_left _ (List.mem_append_right _ h))))) (by decide +kernel))) (goodIn_sub (fun _ h => List.mem_append_left _ (List.mem_append_right _ h)) (by decide +kernel))
set_option maxRecDepth 20000 in
theorem gL_law_L_highShare : GoodIn wsL_law (va_wsS RL 270 yL_highShare wsL_highShare) := goodIn_app (goodIn_of _ (by decide +kernel)) ggL_law_L_highShare
set_option maxRecDepth 20000 in
theorem ggL_law_X11_highShare : GoodIn wsL_law wsX11_highShare := goodIn_r _ [1215, 81, 1216, 1217, 1218, 5, 1219, 88, 503, 504, 505, 506, 131, 132, 133, 127, 128, 129, 130, 516, 517, 518, 519, 1264, 1265, 1266, 1267, 1268, 1269, 1270, 1271, 1272, 1273] (by decide +kernel) (by decide +kernel)
set_option maxRecDepth 20000 in
theorem gL_law_X11_highShare : GoodIn wsL_law (wsV RL 273 RX11 yX11_highShare wsX11_highShare) := goodIn_app (goodIn_of _ (by decide +kernel)) ggL_law_X11_highShare
set_option maxRecDepth 20000 in
theorem ggL_law_L_meanRun : GoodIn wsL_law wsL_meanRun := goodIn_ca (goodIn_ca (goodIn_r _ [1222, 108, 464, 1223, 1224, 1225, 2, 1226, 19, 456, 403, 404, 405, 117, 118, 114, 115, 116, 487, 488, 489, 21, 490, 414, 491, 492, 493, 494, 495, 496, 497, 498, 47, 428, 429, 430, 431, 470, 471, 472, 473, 474, 1256, 1257, 1258, 1259, 1260, 1261, 1262, 1263, 1280, 1281] (by decide +kernel) (by decide +kernel)) (goodIn_sub (fun _ h => List.mem_append_left _ (List.mem_append_left _ (List.mem_append_left _ (List.mem_append_left _ (List.mem_append_right _ h))))) (by decide +kernel))) (goodIn_sub (fun _ h => List.mem_append_left _ (List.mem_append_right _ h)) (by decide +kernel))
set_option maxRecDepth 20000 in
theorem gL_law_L_meanRun : GoodIn wsL_law (va_wsS RL 274 yL_meanRun wsL_meanRun) := goodIn_app (goodIn_of _ (by decide +kernel)) ggL_law_L_meanRun
set_option maxRecDepth 20000 in
theorem ggL_law_X11_meanRun : GoodIn wsL_law wsX11_meanRun := goodIn_r _ [1230, 81, 1216, 1217, 1218, 5, 1219, 88, 503, 504, 505, 506, 131, 132, 133, 127, 128, 129, 130, 507, 508, 509, 510, 82, 83, 84, 511, 89, 90, 91, 92, 93, 94, 95, 96, 97, 98, 99, 100, 101, 102, 103, 12, 13, 512, 513, 514, 515, 516, 517, 518, 519, 520, 521, 290, 522, 523, 524, 525, 526, 527, 528, 529, 530, 531, 532, 533, 534, 535, 536, 537, 538, 539, 540, 541, 542, 543, 544, 545, 546, 547, 548, 549, 550, 551, 552, 553, 554, 555, 556, 412, 557, 558, 559, 560, 561, 562, 563, 564, 565, 566, 567, 568, 569, 417, 570, 571, 572, 573, 574, 575, 576, 577, 578, 579, 580, 411, 413, 581, 582, 583, 584, 585, 586, 587, 588, 589, 590, 591, 592, 593, 594, 595, 596, 597, 598, 599, 600, 601, 602, 603, 604, 605, 606, 607, 608, 609, 610, 611, 612, 1264, 1265, 1266, 1267, 1268, 1269, 1270, 1271, 1272, 1273, 1293, 1294, 1295, 1301] (by decide +kernel) (by decide +kernel)
set_option maxRecDepth 20000 in
theorem gL_law_X11_meanRun : GoodIn wsL_law (wsV RL 276 RX11 yX11_meanRun wsX11_meanRun) := goodIn_app (goodIn_of _ (by decide +kernel)) ggL_law_X11_meanRun
set_option maxRecDepth 20000 in
theorem ggL_law_X7_isSound : GoodIn wsL_law wsX7_isSound := goodIn_r _ [1234, 19, 29, 1235, 1236, 1237, 21, 1238, 414, 491, 492, 493, 494, 495, 496, 497, 498, 47, 428, 429, 430, 431, 1239, 1240, 1241, 1242, 1243, 1244, 1245, 1246, 1247, 660, 661, 662, 410, 411, 412, 413, 1248, 1249, 1250, 28, 1251, 903, 61, 62, 1256, 1257, 1258, 1259, 1260, 1261, 1262, 1263, 1280, 1281, 1286, 1287, 1288, 1289, 1290, 1291] (by decide +kernel) (by decide +kernel)
set_option maxRecDepth 20000 in
theorem gL_law_X7_isSound : GoodIn wsL_law (wsV RL 277 RX7 yX7_isSound wsX7_isSound) := goodIn_app (goodIn_of _ (by decide +kernel)) ggL_law_X7_isSound
set_option maxRecDepth 20000 in
theorem ggL_law_X11_isSound : GoodIn wsL_law wsX11_isSound := goodIn_r _ [1255, 88, 1264, 1265, 1266, 1267, 1268, 1269, 1270, 1271, 1272, 1273] (by decide +kernel) (by decide +kernel)
set_option maxRecDepth 20000 in
theorem gL_law_X11_isSound : GoodIn wsL_law (wsV RL 281 RX11 yX11_isSound wsX11_isSound) := goodIn_app (goodIn_of _ (by decide +kernel)) ggL_law_X11_isSound
