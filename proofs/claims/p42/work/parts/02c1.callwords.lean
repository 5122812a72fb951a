set_option maxRecDepth 20000 in
theorem ggX0_clearFor_J7_fill_53178 : GoodIn wsX0_clearFor wsJ7_fill_53178 := goodIn_r _ [10] (by decide +kernel) (by decide +kernel)
set_option maxRecDepth 20000 in
theorem gX0_clearFor_J7_fill_53178 : GoodIn wsX0_clearFor (va_wsS RX0 15 yJ7_fill_53178 wsJ7_fill_53178) := goodIn_app (goodIn_of _ (by decide +kernel)) ggX0_clearFor_J7_fill_53178
set_option maxRecDepth 20000 in
theorem ggX0_addLevel_X0_has : GoodIn wsX0_addLevel wsX0_has := goodIn_r _ [6, 7, 1, 8, 9] (by decide +kernel) (by decide +kernel)
set_option maxRecDepth 20000 in
theorem gX0_addLevel_X0_has : GoodIn wsX0_addLevel (wsV RX0 31 RX0 yX0_has wsX0_has) := goodIn_app (goodIn_of _ (by decide +kernel)) ggX0_addLevel_X0_has
set_option maxRecDepth 20000 in
theorem ggX0_levelsAt_X0_has : GoodIn wsX0_levelsAt wsX0_has := goodIn_r _ [6, 7, 1, 8, 9] (by decide +kernel) (by decide +kernel)
set_option maxRecDepth 20000 in
theorem gX0_levelsAt_X0_has : GoodIn wsX0_levelsAt (wsV RX0 31 RX0 yX0_has wsX0_has) := goodIn_app (goodIn_of _ (by decide +kernel)) ggX0_levelsAt_X0_has
set_option maxRecDepth 20000 in
theorem ggX0_isHighAt_X0_has : GoodIn wsX0_isHighAt wsX0_has := goodIn_r _ [6, 7, 1, 8, 9] (by decide +kernel) (by decide +kernel)
set_option maxRecDepth 20000 in
theorem gX0_isHighAt_X0_has : GoodIn wsX0_isHighAt (wsV RX0 31 RX0 yX0_has wsX0_has) := goodIn_app (goodIn_of _ (by decide +kernel)) ggX0_isHighAt_X0_has
set_option maxRecDepth 20000 in
theorem ggX0_changesAt_X0_isHighAt : GoodIn wsX0_changesAt wsX0_isHighAt := goodIn_r _ [5, 6, 7, 8, 9, 4, 10, 11, 12, 13] (by decide +kernel) (by decide +kernel)
set_option maxRecDepth 20000 in
theorem gX0_changesAt_X0_isHighAt : GoodIn wsX0_changesAt (wsV RX0 35 RX0 yX0_isHighAt wsX0_isHighAt) := goodIn_app (goodIn_of _ (by decide +kernel)) ggX0_changesAt_X0_isHighAt
set_option maxRecDepth 20000 in
theorem ggX0_risesAt_X0_isHighAt : GoodIn wsX0_risesAt wsX0_isHighAt := goodIn_r _ [5, 6, 7, 8, 9, 4, 10, 11, 12, 13] (by decide +kernel) (by decide +kernel)
set_option maxRecDepth 20000 in
theorem gX0_risesAt_X0_isHighAt : GoodIn wsX0_risesAt (wsV RX0 35 RX0 yX0_isHighAt wsX0_isHighAt) := goodIn_app (goodIn_of _ (by decide +kernel)) ggX0_risesAt_X0_isHighAt
set_option maxRecDepth 20000 in
theorem ggX0_fallsAt_X0_isHighAt : GoodIn wsX0_fallsAt wsX0_isHighAt := goodIn_r _ [5, 6, 7, 8, 9, 4, 10, 11, 12, 13] (by decide +kernel) (by decide +kernel)
set_option maxRecDepth 20000 in
theorem gX0_fallsAt_X0_isHighAt : GoodIn wsX0_fallsAt (wsV RX0 35 RX0 yX0_isHighAt wsX0_isHighAt) := goodIn_app (goodIn_of _ (by decide +kernel)) ggX0_fallsAt_X0_isHighAt
set_option maxRecDepth 20000 in
theorem ggX0_changeCount_X0_levelsAt : GoodIn wsX0_changeCount wsX0_levelsAt := goodIn_r _ [6, 7, 8, 9, 10, 5, 11, 1, 12, 13] (by decide +kernel) (by decide +kernel)
set_option maxRecDepth 20000 in
theorem gX0_changeCount_X0_levelsAt : GoodIn wsX0_changeCount (wsV RX0 39 RX0 yX0_levelsAt wsX0_levelsAt) := goodIn_app (goodIn_of _ (by decide +kernel)) ggX0_changeCount_X0_levelsAt
set_option maxRecDepth 20000 in
theorem ggX0_highCount_X0_isHighAt : GoodIn wsX0_highCount wsX0_isHighAt := goodIn_r _ [6, 7, 8, 9, 10, 5, 11, 1, 12, 13] (by decide +kernel) (by decide +kernel)
set_option maxRecDepth 20000 in
theorem gX0_highCount_X0_isHighAt : GoodIn wsX0_highCount (wsV RX0 35 RX0 yX0_isHighAt wsX0_isHighAt) := goodIn_app (goodIn_of _ (by decide +kernel)) ggX0_highCount_X0_isHighAt
set_option maxRecDepth 20000 in
theorem ggX0_runCount_X0_changesAt : GoodIn wsX0_runCount wsX0_changesAt := goodIn_r _ [6, 7, 8, 9, 5, 10, 11, 12, 13, 14, 15, 1, 16, 17] (by decide +kernel) (by decide +kernel)
set_option maxRecDepth 20000 in
theorem gX0_runCount_X0_changesAt : GoodIn wsX0_runCount (wsV RX0 43 RX0 yX0_changesAt wsX0_changesAt) := goodIn_app (goodIn_of _ (by decide +kernel)) ggX0_runCount_X0_changesAt
set_option maxRecDepth 20000 in
theorem ggX0_runLength_X0_changesAt : GoodIn wsX0_runLength wsX0_changesAt := goodIn_r _ [6, 7, 8, 9, 5, 10, 11, 12, 13, 14, 15, 1, 16, 17] (by decide +kernel) (by decide +kernel)
set_option maxRecDepth 20000 in
theorem gX0_runLength_X0_changesAt : GoodIn wsX0_runLength (wsV RX0 43 RX0 yX0_changesAt wsX0_changesAt) := goodIn_app (goodIn_of _ (by decide +kernel)) ggX0_runLength_X0_changesAt
set_option maxRecDepth 20000 in
theorem ggX0_shortestInner_X0_changesAt : GoodIn wsX0_shortestInner wsX0_changesAt := goodIn_r _ [6, 7, 8, 9, 5, 10, 11, 12, 13, 14, 15, 1, 16, 17] (by decide +kernel) (by decide +kernel)
set_option maxRecDepth 20000 in
theorem gX0_shortestInner_X0_changesAt : GoodIn wsX0_shortestInner (wsV RX0 43 RX0 yX0_changesAt wsX0_changesAt) := goodIn_app (goodIn_of _ (by decide +kernel)) ggX0_shortestInner_X0_changesAt
set_option maxRecDepth 20000 in
theorem ggX0_blockSign_X0_changesAt : GoodIn wsX0_blockSign wsX0_changesAt := goodIn_r _ [10, 11, 12, 13, 9, 14, 15, 16, 17, 18, 19, 1, 20, 21] (by decide +kernel) (by decide +kernel)
set_option maxRecDepth 20000 in
theorem gX0_blockSign_X0_changesAt : GoodIn wsX0_blockSign (wsV RX0 43 RX0 yX0_changesAt wsX0_changesAt) := goodIn_app (goodIn_of _ (by decide +kernel)) ggX0_blockSign_X0_changesAt
set_option maxRecDepth 20000 in
theorem ggX0_blockSign_X0_isHighAt : GoodIn wsX0_blockSign wsX0_isHighAt := goodIn_r _ [14, 15, 16, 17, 18, 9, 19, 1, 20, 21] (by decide +kernel) (by decide +kernel)
set_option maxRecDepth 20000 in
theorem gX0_blockSign_X0_isHighAt : GoodIn wsX0_blockSign (wsV RX0 35 RX0 yX0_isHighAt wsX0_isHighAt) := goodIn_app (goodIn_of _ (by decide +kernel)) ggX0_blockSign_X0_isHighAt
set_option maxRecDepth 20000 in
theorem ggX0_areRunsWhole_X0_changesAt : GoodIn wsX0_areRunsWhole wsX0_changesAt := goodIn_r _ [6, 7, 8, 9, 5, 10, 11, 12, 13, 14, 15, 1, 16, 17] (by decide +kernel) (by decide +kernel)
set_option maxRecDepth 20000 in
theorem gX0_areRunsWhole_X0_changesAt : GoodIn wsX0_areRunsWhole (wsV RX0 43 RX0 yX0_changesAt wsX0_changesAt) := goodIn_app (goodIn_of _ (by decide +kernel)) ggX0_areRunsWhole_X0_changesAt
set_option maxRecDepth 20000 in
theorem ggX0_areChangesSeen_X0_areChangesSeenBy : GoodIn wsX0_areChangesSeen wsX0_areChangesSeenBy := goodIn_r _ [5, 6, 7, 8, 9, 4, 10, 11, 12, 13, 14, 15, 16, 17, 18, 19, 20, 21, 22, 23, 24, 25, 26, 27, 28, 29] (by decide +kernel) (by decide +kernel)
set_option maxRecDepth 20000 in
theorem gX0_areChangesSeen_X0_areChangesSeenBy : GoodIn wsX0_areChangesSeen (wsV RX0 46 RX0 yX0_areChangesSeenBy wsX0_areChangesSeenBy) := goodIn_app (goodIn_of _ (by decide +kernel)) ggX0_areChangesSeen_X0_areChangesSeenBy
set_option maxRecDepth 20000 in
theorem ggX0_areChangesSeenBy_X0_blockSign : GoodIn wsX0_areChangesSeenBy wsX0_blockSign := goodIn_r _ [6, 1, 7, 8, 9, 10, 11, 12, 13, 5, 14, 15, 16, 17, 18, 19, 20, 21, 22, 23, 24, 25] (by decide +kernel) (by decide +kernel)
set_option maxRecDepth 20000 in
theorem gX0_areChangesSeenBy_X0_blockSign : GoodIn wsX0_areChangesSeenBy (wsV RX0 49 RX0 yX0_blockSign wsX0_blockSign) := goodIn_app (goodIn_of _ (by decide +kernel)) ggX0_areChangesSeenBy_X0_blockSign
set_option maxRecDepth 20000 in
theorem ggX0_areChangesSeenBy_X0_changesAt : GoodIn wsX0_areChangesSeenBy wsX0_changesAt := goodIn_r _ [14, 15, 16, 17, 5, 18, 19, 20, 21, 22, 23, 1, 24, 25] (by decide +kernel) (by decide +kernel)
set_option maxRecDepth 20000 in
theorem gX0_areChangesSeenBy_X0_changesAt : GoodIn wsX0_areChangesSeenBy (wsV RX0 43 RX0 yX0_changesAt wsX0_changesAt) := goodIn_app (goodIn_of _ (by decide +kernel)) ggX0_areChangesSeenBy_X0_changesAt
set_option maxRecDepth 20000 in
theorem ggX2_takeBit_X3_tell : GoodIn wsX2_takeBit wsX3_tell := goodIn_r _ [9, 10, 11, 12, 13, 14, 15, 20, 21, 22, 23, 24, 25] (by decide +kernel) (by decide +kernel)
set_option maxRecDepth 20000 in
theorem gX2_takeBit_X3_tell : GoodIn wsX2_takeBit (wsV RX2 25 RX3 yX3_tell wsX3_tell) := goodIn_app (goodIn_of _ (by decide +kernel)) ggX2_takeBit_X3_tell
set_option maxRecDepth 20000 in
theorem ggX2_takeSelectRise_X3_tell : GoodIn wsX2_takeSelectRise wsX3_tell := goodIn_r _ [9, 10, 11, 12, 13, 14, 15, 20, 21, 22, 23, 24, 25] (by decide +kernel) (by decide +kernel)
set_option maxRecDepth 20000 in
theorem gX2_takeSelectRise_X3_tell : GoodIn wsX2_takeSelectRise (wsV RX2 25 RX3 yX3_tell wsX3_tell) := goodIn_app (goodIn_of _ (by decide +kernel)) ggX2_takeSelectRise_X3_tell
set_option maxRecDepth 20000 in
theorem ggX4_metIn_X4_stepMetIn : GoodIn wsX4_metIn wsX4_stepMetIn := goodIn_r _ [8, 9, 10, 11, 7, 12, 13, 14, 15, 16, 17, 18, 19, 20, 21, 22, 23, 24, 25, 26, 27, 28, 29, 30, 31, 32, 33, 34, 35, 36, 41, 42] (by decide +kernel) (by decide +kernel)
set_option maxRecDepth 20000 in
theorem gX4_metIn_X4_stepMetIn : GoodIn wsX4_metIn (va_wsS RX4 26 yX4_stepMetIn wsX4_stepMetIn) := goodIn_app (goodIn_of _ (by decide +kernel)) ggX4_metIn_X4_stepMetIn
set_option maxRecDepth 20000 in
theorem ggX4_stepMetIn_X4_isHit : GoodIn wsX4_stepMetIn wsX4_isHit := goodIn_r _ [5, 6, 7, 8, 9, 10, 11, 12, 13, 14, 15, 16, 17, 18, 19, 20, 21, 22, 23, 24, 25, 26, 27, 28, 29, 30, 31] (by decide +kernel) (by decide +kernel)
set_option maxRecDepth 20000 in
theorem gX4_stepMetIn_X4_isHit : GoodIn wsX4_stepMetIn (va_wsS RX4 33 yX4_isHit wsX4_isHit) := goodIn_app (goodIn_of _ (by decide +kernel)) ggX4_stepMetIn_X4_isHit
set_option maxRecDepth 20000 in
theorem ggX4_isHit_X0_risesAt : GoodIn wsX4_isHit wsX0_risesAt := goodIn_r _ [5, 6, 7, 8, 4, 9, 10, 11, 12, 13, 14, 15, 25, 26] (by decide +kernel) (by decide +kernel)
set_option maxRecDepth 20000 in
theorem gX4_isHit_X0_risesAt : GoodIn wsX4_isHit (wsV RX4 37 RX0 yX0_risesAt wsX0_risesAt) := goodIn_app (goodIn_of _ (by decide +kernel)) ggX4_isHit_X0_risesAt
set_option maxRecDepth 20000 in
theorem ggX4_isHit_X0_fallsAt : GoodIn wsX4_isHit wsX0_fallsAt := goodIn_r _ [19, 6, 7, 8, 4, 9, 10, 11, 12, 13, 14, 15, 25, 26] (by decide +kernel) (by decide +kernel)
set_option maxRecDepth 20000 in
theorem gX4_isHit_X0_fallsAt : GoodIn wsX4_isHit (wsV RX4 41 RX0 yX0_fallsAt wsX0_fallsAt) := goodIn_app (goodIn_of _ (by decide +kernel)) ggX4_isHit_X0_fallsAt
set_option maxRecDepth 20000 in
theorem ggX4_isHit_X0_isHighAt : GoodIn wsX4_isHit wsX0_isHighAt := goodIn_r _ [9, 10, 11, 12, 13, 4, 14, 15, 25, 26] (by decide +kernel) (by decide +kernel)
set_option maxRecDepth 20000 in
theorem gX4_isHit_X0_isHighAt : GoodIn wsX4_isHit (wsV RX4 44 RX0 yX0_isHighAt wsX0_isHighAt) := goodIn_app (goodIn_of _ (by decide +kernel)) ggX4_isHit_X0_isHighAt
set_option maxRecDepth 20000 in
theorem ggX4_isHit_X0_levelsAt : GoodIn wsX4_isHit wsX0_levelsAt := goodIn_r _ [24, 10, 11, 12, 13, 4, 14, 15, 25, 26] (by decide +kernel) (by decide +kernel)
set_option maxRecDepth 20000 in
theorem gX4_isHit_X0_levelsAt : GoodIn wsX4_isHit (wsV RX4 47 RX0 yX0_levelsAt wsX0_levelsAt) := goodIn_app (goodIn_of _ (by decide +kernel)) ggX4_isHit_X0_levelsAt
set_option maxRecDepth 20000 in
theorem ggX5_takeStart_X3_tell : GoodIn wsX5_takeStart wsX3_tell := goodIn_r _ [9, 10, 11, 12, 13, 14, 15, 26, 27, 28, 29, 30, 31] (by decide +kernel) (by decide +kernel)
set_option maxRecDepth 20000 in
theorem gX5_takeStart_X3_tell : GoodIn wsX5_takeStart (wsV RX5 19 RX3 yX3_tell wsX3_tell) := goodIn_app (goodIn_of _ (by decide +kernel)) ggX5_takeStart_X3_tell
set_option maxRecDepth 20000 in
theorem ggX5_takeEnd_X3_tell : GoodIn wsX5_takeEnd wsX3_tell := goodIn_r _ [7, 8, 9, 10, 11, 12, 13, 24, 25, 26, 27, 28, 29] (by decide +kernel) (by decide +kernel)
set_option maxRecDepth 20000 in
theorem gX5_takeEnd_X3_tell : GoodIn wsX5_takeEnd (wsV RX5 19 RX3 yX3_tell wsX3_tell) := goodIn_app (goodIn_of _ (by decide +kernel)) ggX5_takeEnd_X3_tell
set_option maxRecDepth 20000 in
theorem ggX5_takeBit_X5_takeByte : GoodIn wsX5_takeBit wsX5_takeByte := goodIn_r _ [9, 10, 11, 3, 12, 13, 14, 15, 16, 17, 18, 19, 20, 21, 22, 23, 24, 25, 26, 27, 28, 29, 30, 31, 32, 33, 34, 35, 36, 37, 38, 39, 40, 41, 42, 43, 44, 45, 46, 47, 48, 49] (by decide +kernel) (by decide +kernel)
set_option maxRecDepth 20000 in
theorem gX5_takeBit_X5_takeByte : GoodIn wsX5_takeBit (wsV RX5 42 RX5 yX5_takeByte wsX5_takeByte) := goodIn_app (goodIn_of _ (by decide +kernel)) ggX5_takeBit_X5_takeByte
set_option maxRecDepth 20000 in
theorem ggX5_takeByte_X3_tell : GoodIn wsX5_takeByte wsX3_tell := goodIn_r _ [12, 13, 14, 15, 16, 17, 18, 35, 36, 37, 38, 39, 40] (by decide +kernel) (by decide +kernel)
set_option maxRecDepth 20000 in
theorem gX5_takeByte_X3_tell : GoodIn wsX5_takeByte (wsV RX5 19 RX3 yX3_tell wsX3_tell) := goodIn_app (goodIn_of _ (by decide +kernel)) ggX5_takeByte_X3_tell
set_option maxRecDepth 20000 in
theorem ggX5_takeByte_X1_write : GoodIn wsX5_takeByte wsX1_write := goodIn_r _ [23, 24, 41] (by decide +kernel) (by decide +kernel)
set_option maxRecDepth 20000 in
theorem gX5_takeByte_X1_write : GoodIn wsX5_takeByte (wsV RX5 55 RX1 yX1_write wsX1_write) := goodIn_app (goodIn_of _ (by decide +kernel)) ggX5_takeByte_X1_write
set_option maxRecDepth 20000 in
theorem ggX6_hasFlip_X6_countAhead : GoodIn wsX6_hasFlip wsX6_countAhead := goodIn_r _ [7, 1, 2, 8, 9, 10, 11, 12, 13] (by decide +kernel) (by decide +kernel)
set_option maxRecDepth 20000 in
theorem gX6_hasFlip_X6_countAhead : GoodIn wsX6_hasFlip (wsV RX6 22 RX6 yX6_countAhead wsX6_countAhead) := goodIn_app (goodIn_of _ (by decide +kernel)) ggX6_hasFlip_X6_countAhead
set_option maxRecDepth 20000 in
theorem ggX6_isHighAt_X6_countAhead : GoodIn wsX6_isHighAt wsX6_countAhead := goodIn_r _ [6, 7, 8, 9, 10, 11, 12, 13, 14] (by decide +kernel) (by decide +kernel)
set_option maxRecDepth 20000 in
theorem gX6_isHighAt_X6_countAhead : GoodIn wsX6_isHighAt (wsV RX6 22 RX6 yX6_countAhead wsX6_countAhead) := goodIn_app (goodIn_of _ (by decide +kernel)) ggX6_isHighAt_X6_countAhead
set_option maxRecDepth 20000 in
theorem ggX6_send_X6_addSent : GoodIn wsX6_send wsX6_addSent := goodIn_r _ [6, 7, 8, 9, 10, 11, 12, 13, 14] (by decide +kernel) (by decide +kernel)
set_option maxRecDepth 20000 in
theorem gX6_send_X6_addSent : GoodIn wsX6_send (wsV RX6 36 RX6 yX6_addSent wsX6_addSent) := goodIn_app (goodIn_of _ (by decide +kernel)) ggX6_send_X6_addSent
set_option maxRecDepth 20000 in
theorem ggX6_takesSent_X6_hasFlip : GoodIn wsX6_takesSent wsX6_hasFlip := goodIn_r _ [8, 1, 9, 10, 11, 12, 7, 13, 14, 15, 16, 17, 18, 19] (by decide +kernel) (by decide +kernel)
set_option maxRecDepth 20000 in
theorem gX6_takesSent_X6_hasFlip : GoodIn wsX6_takesSent (wsV RX6 40 RX6 yX6_hasFlip wsX6_hasFlip) := goodIn_app (goodIn_of _ (by decide +kernel)) ggX6_takesSent_X6_hasFlip
set_option maxRecDepth 20000 in
theorem ggX6_flipSent_X6_flipAt : GoodIn wsX6_flipSent wsX6_flipAt := goodIn_r _ [7, 8, 9, 10, 6, 11, 12, 13, 14, 15, 16, 17, 18, 19, 20, 21, 22, 23, 24, 25, 26, 27, 28, 29, 30, 31] (by decide +kernel) (by decide +kernel)
set_option maxRecDepth 20000 in
theorem gX6_flipSent_X6_flipAt : GoodIn wsX6_flipSent (wsV RX6 44 RX6 yX6_flipAt wsX6_flipAt) := goodIn_app (goodIn_of _ (by decide +kernel)) ggX6_flipSent_X6_flipAt
set_option maxRecDepth 20000 in
theorem ggX6_flipAt_X6_hasFlip : GoodIn wsX6_flipAt wsX6_hasFlip := goodIn_r _ [5, 6, 7, 8, 9, 10, 4, 11, 20, 21, 22, 23, 24, 25] (by decide +kernel) (by decide +kernel)
set_option maxRecDepth 20000 in
theorem gX6_flipAt_X6_hasFlip : GoodIn wsX6_flipAt (wsV RX6 40 RX6 yX6_hasFlip wsX6_hasFlip) := goodIn_app (goodIn_of _ (by decide +kernel)) ggX6_flipAt_X6_hasFlip
set_option maxRecDepth 20000 in
theorem ggX6_flipAt_X6_countAhead : GoodIn wsX6_flipAt wsX6_countAhead := goodIn_r _ [11, 6, 7, 20, 21, 22, 23, 24, 25] (by decide +kernel) (by decide +kernel)
set_option maxRecDepth 20000 in
theorem gX6_flipAt_X6_countAhead : GoodIn wsX6_flipAt (wsV RX6 22 RX6 yX6_countAhead wsX6_countAhead) := goodIn_app (goodIn_of _ (by decide +kernel)) ggX6_flipAt_X6_countAhead
set_option maxRecDepth 20000 in
theorem ggX6_flipAt_X6_takeOut : GoodIn wsX6_flipAt wsX6_takeOut := goodIn_r _ [15, 6, 7, 20, 21, 22, 23, 24, 25] (by decide +kernel) (by decide +kernel)
set_option maxRecDepth 20000 in
theorem gX6_flipAt_X6_takeOut : GoodIn wsX6_flipAt (wsV RX6 47 RX6 yX6_takeOut wsX6_takeOut) := goodIn_app (goodIn_of _ (by decide +kernel)) ggX6_flipAt_X6_takeOut
set_option maxRecDepth 20000 in
theorem ggX6_flipAt_X6_putIn : GoodIn wsX6_flipAt wsX6_putIn := goodIn_r _ [19, 6, 7, 20, 21, 22, 23, 24, 25] (by decide +kernel) (by decide +kernel)
set_option maxRecDepth 20000 in
theorem gX6_flipAt_X6_putIn : GoodIn wsX6_flipAt (wsV RX6 50 RX6 yX6_putIn wsX6_putIn) := goodIn_app (goodIn_of _ (by decide +kernel)) ggX6_flipAt_X6_putIn
set_option maxRecDepth 20000 in
theorem ggX6_showIn_X0_addLevel : GoodIn wsX6_showIn wsX0_addLevel := goodIn_r _ [9, 10, 11, 12, 13, 8, 14, 15, 22, 23] (by decide +kernel) (by decide +kernel)
set_option maxRecDepth 20000 in
theorem gX6_showIn_X0_addLevel : GoodIn wsX6_showIn (wsV RX6 57 RX0 yX0_addLevel wsX0_addLevel) := goodIn_app (goodIn_of _ (by decide +kernel)) ggX6_showIn_X0_addLevel
set_option maxRecDepth 20000 in
theorem ggX7_init_X6_init : GoodIn wsX7_init wsX6_init := goodIn_r _ [28, 29, 2, 3, 30, 31, 32, 68, 69, 70, 71, 72, 73] (by decide +kernel) (by decide +kernel)
set_option maxRecDepth 20000 in
theorem gX7_init_X6_init : GoodIn wsX7_init (wsX6_init) := ggX7_init_X6_init
set_option maxRecDepth 20000 in
theorem ggX7_init_X0_init : GoodIn wsX7_init wsX0_init := goodIn_r _ [35, 36, 2, 3, 30, 37, 74, 75] (by decide +kernel) (by decide +kernel)
set_option maxRecDepth 20000 in
theorem gX7_init_X0_init : GoodIn wsX7_init (wsX0_init) := ggX7_init_X0_init
set_option maxRecDepth 20000 in
theorem ggX7_init_X4_init : GoodIn wsX7_init wsX4_init := goodIn_r _ [40, 41, 2, 3, 42, 43, 30, 44, 45, 76, 77, 78, 79] (by decide +kernel) (by decide +kernel)
set_option maxRecDepth 20000 in
theorem gX7_init_X4_init : GoodIn wsX7_init (wsX4_init) := ggX7_init_X4_init
set_option maxRecDepth 20000 in
theorem ggX7_init_X3_init : GoodIn wsX7_init wsX3_init := goodIn_r _ [48, 49, 2, 3, 42, 50, 30, 51, 52, 53, 54, 80, 81, 82, 83, 84, 85] (by decide +kernel) (by decide +kernel)
set_option maxRecDepth 20000 in
theorem gX7_init_X3_init : GoodIn wsX7_init (wsX3_init) := ggX7_init_X3_init
set_option maxRecDepth 20000 in
theorem ggX7_init_X1_init : GoodIn wsX7_init wsX1_init := goodIn_r _ [57, 58, 2, 3, 30, 59, 86] (by decide +kernel) (by decide +kernel)
set_option maxRecDepth 20000 in
theorem gX7_init_X1_init : GoodIn wsX7_init (wsX1_init) := ggX7_init_X1_init
set_option maxRecDepth 20000 in
theorem ggX7_idle_X7_checkWire : GoodIn wsX7_idle wsX7_checkWire := goodIn_ca (goodIn_r _ [6, 7, 8] (by decide +kernel) (by decide +kernel)) (goodIn_sub (fun _ h => List.mem_cons_of_mem _ (List.mem_append_right _ h)) (by decide +kernel))
set_option maxRecDepth 20000 in
theorem gX7_idle_X7_checkWire : GoodIn wsX7_idle (va_wsS RX7 51 yX7_checkWire wsX7_checkWire) := goodIn_app (goodIn_of _ (by decide +kernel)) ggX7_idle_X7_checkWire
set_option maxRecDepth 20000 in
theorem ggX7_flip_X7_checkWire : GoodIn wsX7_flip wsX7_checkWire := goodIn_ca (goodIn_r _ [6, 7, 8] (by decide +kernel) (by decide +kernel)) (goodIn_sub (fun _ h => List.mem_cons_of_mem _ (List.mem_append_left _ (List.mem_append_left _ (List.mem_append_right _ h)))) (by decide +kernel))
set_option maxRecDepth 20000 in
theorem gX7_flip_X7_checkWire : GoodIn wsX7_flip (va_wsS RX7 51 yX7_checkWire wsX7_checkWire) := goodIn_app (goodIn_of _ (by decide +kernel)) ggX7_flip_X7_checkWire
set_option maxRecDepth 20000 in
theorem ggX7_flip_X7_checkRange : GoodIn wsX7_flip wsX7_checkRange := goodIn_ca (goodIn_r _ [11, 12, 13] (by decide +kernel) (by decide +kernel)) (goodIn_sub (fun _ h => List.mem_cons_of_mem _ (List.mem_append_left _ (List.mem_append_right _ h))) (by decide +kernel))
set_option maxRecDepth 20000 in
theorem gX7_flip_X7_checkRange : GoodIn wsX7_flip (va_wsS RX7 58 yX7_checkRange wsX7_checkRange) := goodIn_app (goodIn_of _ (by decide +kernel)) ggX7_flip_X7_checkRange
set_option maxRecDepth 20000 in
theorem ggX7_flip_X6_beginSending : GoodIn wsX7_flip wsX6_beginSending := goodIn_r _ [18, 19, 20, 69, 70, 71, 72, 73, 74] (by decide +kernel) (by decide +kernel)
set_option maxRecDepth 20000 in
theorem gX7_flip_X6_beginSending : GoodIn wsX7_flip (wsV RX7 62 RX6 yX6_beginSending wsX6_beginSending) := goodIn_app (goodIn_of _ (by decide +kernel)) ggX7_flip_X6_beginSending
set_option maxRecDepth 20000 in
theorem ggX7_flip_X6_addSent : GoodIn wsX7_flip wsX6_addSent := goodIn_r _ [24, 20, 25, 69, 70, 71, 72, 73, 74] (by decide +kernel) (by decide +kernel)
set_option maxRecDepth 20000 in
theorem gX7_flip_X6_addSent : GoodIn wsX7_flip (wsV RX7 66 RX6 yX6_addSent wsX6_addSent) := goodIn_app (goodIn_of _ (by decide +kernel)) ggX7_flip_X6_addSent
set_option maxRecDepth 20000 in
theorem ggX7_flip_X6_takesSent : GoodIn wsX7_flip wsX6_takesSent := goodIn_r _ [29, 30, 20, 25, 31, 32, 33, 17, 34, 35, 36, 37, 38, 39, 69, 70, 71, 72, 73, 74] (by decide +kernel) (by decide +kernel)
set_option maxRecDepth 20000 in
theorem gX7_flip_X6_takesSent : GoodIn wsX7_flip (wsV RX7 69 RX6 yX6_takesSent wsX6_takesSent) := goodIn_app (goodIn_of _ (by decide +kernel)) ggX7_flip_X6_takesSent
set_option maxRecDepth 20000 in
theorem ggX7_flip_X7_checkFlips : GoodIn wsX7_flip wsX7_checkFlips := goodIn_ca (goodIn_r _ [42, 43, 44] (by decide +kernel) (by decide +kernel)) (goodIn_sub (fun _ h => List.mem_cons_of_mem _ (List.mem_append_right _ h)) (by decide +kernel))
set_option maxRecDepth 20000 in
theorem gX7_flip_X7_checkFlips : GoodIn wsX7_flip (va_wsS RX7 73 yX7_checkFlips wsX7_checkFlips) := goodIn_app (goodIn_of _ (by decide +kernel)) ggX7_flip_X7_checkFlips
set_option maxRecDepth 20000 in
theorem ggX7_flip_X6_flipSent : GoodIn wsX7_flip wsX6_flipSent := goodIn_r _ [48, 20, 25, 49, 50, 51, 17, 52, 31, 32, 33, 34, 30, 35, 36, 37, 38, 39, 53, 54, 55, 56, 57, 58, 59, 60, 69, 70, 71, 72, 73, 74] (by decide +kernel) (by decide +kernel)
set_option maxRecDepth 20000 in
theorem gX7_flip_X6_flipSent : GoodIn wsX7_flip (wsV RX7 76 RX6 yX6_flipSent wsX6_flipSent) := goodIn_app (goodIn_of _ (by decide +kernel)) ggX7_flip_X6_flipSent
set_option maxRecDepth 20000 in
theorem ggX7_level_X7_checkWire : GoodIn wsX7_level wsX7_checkWire := goodIn_ca (goodIn_r _ [5, 6, 7] (by decide +kernel) (by decide +kernel)) (goodIn_sub (fun _ h => List.mem_cons_of_mem _ (List.mem_append_left _ (List.mem_append_right _ h))) (by decide +kernel))
set_option maxRecDepth 20000 in
theorem gX7_level_X7_checkWire : GoodIn wsX7_level (va_wsS RX7 51 yX7_checkWire wsX7_checkWire) := goodIn_app (goodIn_of _ (by decide +kernel)) ggX7_level_X7_checkWire
set_option maxRecDepth 20000 in
theorem ggX7_level_X7_checkRange : GoodIn wsX7_level wsX7_checkRange := goodIn_ca (goodIn_r _ [10, 11, 12] (by decide +kernel) (by decide +kernel)) (goodIn_sub (fun _ h => List.mem_cons_of_mem _ (List.mem_append_right _ h)) (by decide +kernel))
set_option maxRecDepth 20000 in
theorem gX7_level_X7_checkRange : GoodIn wsX7_level (va_wsS RX7 58 yX7_checkRange wsX7_checkRange) := goodIn_app (goodIn_of _ (by decide +kernel)) ggX7_level_X7_checkRange
set_option maxRecDepth 20000 in
theorem ggX7_level_X6_isHighAt : GoodIn wsX7_level wsX6_isHighAt := goodIn_r _ [17, 18, 19, 20, 21, 16, 22, 23, 24, 33, 34, 35, 36, 37, 38] (by decide +kernel) (by decide +kernel)
set_option maxRecDepth 20000 in
theorem gX7_level_X6_isHighAt : GoodIn wsX7_level (wsV RX7 83 RX6 yX6_isHighAt wsX6_isHighAt) := goodIn_app (goodIn_of _ (by decide +kernel)) ggX7_level_X6_isHighAt
set_option maxRecDepth 20000 in
theorem ggX7_glitch_X7_checkWire : GoodIn wsX7_glitch wsX7_checkWire := goodIn_ca (goodIn_r _ [6, 7, 8] (by decide +kernel) (by decide +kernel)) (goodIn_sub (fun _ h => List.mem_cons_of_mem _ (List.mem_append_left _ (List.mem_append_left _ (List.mem_append_right _ h)))) (by decide +kernel))
set_option maxRecDepth 20000 in
theorem gX7_glitch_X7_checkWire : GoodIn wsX7_glitch (va_wsS RX7 51 yX7_checkWire wsX7_checkWire) := goodIn_app (goodIn_of _ (by decide +kernel)) ggX7_glitch_X7_checkWire
set_option maxRecDepth 20000 in
theorem ggX7_glitch_X7_checkRange : GoodIn wsX7_glitch wsX7_checkRange := goodIn_ca (goodIn_r _ [11, 12, 13] (by decide +kernel) (by decide +kernel)) (goodIn_sub (fun _ h => List.mem_cons_of_mem _ (List.mem_append_left _ (List.mem_append_right _ h))) (by decide +kernel))
set_option maxRecDepth 20000 in
theorem gX7_glitch_X7_checkRange : GoodIn wsX7_glitch (va_wsS RX7 58 yX7_checkRange wsX7_checkRange) := goodIn_app (goodIn_of _ (by decide +kernel)) ggX7_glitch_X7_checkRange
set_option maxRecDepth 20000 in
theorem ggX7_glitch_X6_beginSending : GoodIn wsX7_glitch wsX6_beginSending := goodIn_r _ [18, 19, 20, 69, 70, 71, 72, 73, 74] (by decide +kernel) (by decide +kernel)
set_option maxRecDepth 20000 in
theorem gX7_glitch_X6_beginSending : GoodIn wsX7_glitch (wsV RX7 62 RX6 yX6_beginSending wsX6_beginSending) := goodIn_app (goodIn_of _ (by decide +kernel)) ggX7_glitch_X6_beginSending
set_option maxRecDepth 20000 in
theorem ggX7_glitch_X6_addSent : GoodIn wsX7_glitch wsX6_addSent := goodIn_r _ [24, 20, 25, 69, 70, 71, 72, 73, 74] (by decide +kernel) (by decide +kernel)
set_option maxRecDepth 20000 in
theorem gX7_glitch_X6_addSent : GoodIn wsX7_glitch (wsV RX7 66 RX6 yX6_addSent wsX6_addSent) := goodIn_app (goodIn_of _ (by decide +kernel)) ggX7_glitch_X6_addSent
set_option maxRecDepth 20000 in
theorem ggX7_glitch_X6_takesSent : GoodIn wsX7_glitch wsX6_takesSent := goodIn_r _ [29, 30, 20, 25, 31, 32, 33, 17, 34, 35, 36, 37, 38, 39, 69, 70, 71, 72, 73, 74] (by decide +kernel) (by decide +kernel)
set_option maxRecDepth 20000 in
theorem gX7_glitch_X6_takesSent : GoodIn wsX7_glitch (wsV RX7 69 RX6 yX6_takesSent wsX6_takesSent) := goodIn_app (goodIn_of _ (by decide +kernel)) ggX7_glitch_X6_takesSent
set_option maxRecDepth 20000 in
theorem ggX7_glitch_X7_checkFlips : GoodIn wsX7_glitch wsX7_checkFlips := goodIn_ca (goodIn_r _ [42, 43, 44] (by decide +kernel) (by decide +kernel)) (goodIn_sub (fun _ h => List.mem_cons_of_mem _ (List.mem_append_right _ h)) (by decide +kernel))
set_option maxRecDepth 20000 in
theorem gX7_glitch_X7_checkFlips : GoodIn wsX7_glitch (va_wsS RX7 73 yX7_checkFlips wsX7_checkFlips) := goodIn_app (goodIn_of _ (by decide +kernel)) ggX7_glitch_X7_checkFlips
set_option maxRecDepth 20000 in
theorem ggX7_glitch_X6_flipSent : GoodIn wsX7_glitch wsX6_flipSent := goodIn_r _ [48, 20, 25, 49, 50, 51, 17, 52, 31, 32, 33, 34, 30, 35, 36, 37, 38, 39, 53, 54, 55, 56, 57, 58, 59, 60, 69, 70, 71, 72, 73, 74] (by decide +kernel) (by decide +kernel)
set_option maxRecDepth 20000 in
theorem gX7_glitch_X6_flipSent : GoodIn wsX7_glitch (wsV RX7 76 RX6 yX6_flipSent wsX6_flipSent) := goodIn_app (goodIn_of _ (by decide +kernel)) ggX7_glitch_X6_flipSent
set_option maxRecDepth 20000 in
theorem ggX7_drift_X7_checkRange : GoodIn wsX7_drift wsX7_checkRange := goodIn_ca (goodIn_r _ [5, 6, 7] (by decide +kernel) (by decide +kernel)) (goodIn_sub (fun _ h => List.mem_cons_of_mem _ (List.mem_append_right _ h)) (by decide +kernel))
set_option maxRecDepth 20000 in
theorem gX7_drift_X7_checkRange : GoodIn wsX7_drift (va_wsS RX7 58 yX7_checkRange wsX7_checkRange) := goodIn_app (goodIn_of _ (by decide +kernel)) ggX7_drift_X7_checkRange
set_option maxRecDepth 20000 in
theorem ggX7_serial_X7_checkWire : GoodIn wsX7_serial wsX7_checkWire := goodIn_ca (goodIn_r _ [5, 6, 7] (by decide +kernel) (by decide +kernel)) (goodIn_sub (fun _ h => List.mem_cons_of_mem _ (List.mem_append_left _ (List.mem_append_left _ (List.mem_append_right _ h)))) (by decide +kernel))
set_option maxRecDepth 20000 in
theorem gX7_serial_X7_checkWire : GoodIn wsX7_serial (va_wsS RX7 51 yX7_checkWire wsX7_checkWire) := goodIn_app (goodIn_of _ (by decide +kernel)) ggX7_serial_X7_checkWire
set_option maxRecDepth 20000 in
theorem ggX7_serial_X7_checkRange : GoodIn wsX7_serial wsX7_checkRange := goodIn_ca (goodIn_r _ [10, 11, 12] (by decide +kernel) (by decide +kernel)) (goodIn_sub (fun _ h => List.mem_cons_of_mem _ (List.mem_append_left _ (List.mem_append_right _ h))) (by decide +kernel))
set_option maxRecDepth 20000 in
theorem gX7_serial_X7_checkRange : GoodIn wsX7_serial (va_wsS RX7 58 yX7_checkRange wsX7_checkRange) := goodIn_app (goodIn_of _ (by decide +kernel)) ggX7_serial_X7_checkRange
set_option maxRecDepth 20000 in
theorem ggX7_serial_X7_checkParity : GoodIn wsX7_serial wsX7_checkParity := goodIn_ca (goodIn_r _ [15, 11, 12] (by decide +kernel) (by decide +kernel)) (goodIn_sub (fun _ h => List.mem_cons_of_mem _ (List.mem_append_left _ (List.mem_append_right _ h))) (by decide +kernel))
set_option maxRecDepth 20000 in
theorem gX7_serial_X7_checkParity : GoodIn wsX7_serial (va_wsS RX7 90 yX7_checkParity wsX7_checkParity) := goodIn_app (goodIn_of _ (by decide +kernel)) ggX7_serial_X7_checkParity
set_option maxRecDepth 20000 in
theorem ggX7_serial_X7_serialBits : GoodIn wsX7_serial wsX7_serialBits := goodIn_r _ [18] (by decide +kernel) (by decide +kernel)
set_option maxRecDepth 20000 in
theorem gX7_serial_X7_serialBits : GoodIn wsX7_serial (va_wsS RX7 94 yX7_serialBits wsX7_serialBits) := goodIn_app (goodIn_of _ (by decide +kernel)) ggX7_serial_X7_serialBits
set_option maxRecDepth 20000 in
theorem ggX7_serial_X7_serialWord : GoodIn wsX7_serial wsX7_serialWord := goodIn_r _ [21, 22, 23, 4, 24, 25, 26, 27, 28, 29, 30, 31, 16, 17, 18] (by decide +kernel) (by decide +kernel)
set_option maxRecDepth 20000 in
theorem gX7_serial_X7_serialWord : GoodIn wsX7_serial (va_wsS RX7 98 yX7_serialWord wsX7_serialWord) := goodIn_app (goodIn_of _ (by decide +kernel)) ggX7_serial_X7_serialWord
set_option maxRecDepth 20000 in
theorem ggX7_serial_X6_beginSending : GoodIn wsX7_serial wsX6_beginSending := goodIn_r _ [36, 37, 38, 99, 100, 101, 102, 103, 104] (by decide +kernel) (by decide +kernel)
set_option maxRecDepth 20000 in
theorem gX7_serial_X6_beginSending : GoodIn wsX7_serial (wsV RX7 62 RX6 yX6_beginSending wsX6_beginSending) := goodIn_app (goodIn_of _ (by decide +kernel)) ggX7_serial_X6_beginSending
set_option maxRecDepth 20000 in
theorem ggX7_serial_X7_hasBit : GoodIn wsX7_serial wsX7_hasBit := goodIn_r _ [41] (by decide +kernel) (by decide +kernel)
set_option maxRecDepth 20000 in
theorem gX7_serial_X7_hasBit : GoodIn wsX7_serial (va_wsS RX7 102 yX7_hasBit wsX7_hasBit) := goodIn_app (goodIn_of _ (by decide +kernel)) ggX7_serial_X7_hasBit
set_option maxRecDepth 20000 in
theorem ggX7_serial_X7_tickBehind : GoodIn wsX7_serial wsX7_tickBehind := goodIn_r _ [45, 46, 91, 92, 93, 94, 95, 96, 97, 98] (by decide +kernel) (by decide +kernel)
set_option maxRecDepth 20000 in
theorem gX7_serial_X7_tickBehind : GoodIn wsX7_serial (wsV RX7 106 RX7 yX7_tickBehind wsX7_tickBehind) := goodIn_app (goodIn_of _ (by decide +kernel)) ggX7_serial_X7_tickBehind
set_option maxRecDepth 20000 in
theorem ggX7_serial_X6_send : GoodIn wsX7_serial wsX6_send := goodIn_r _ [50, 37, 51, 52, 53, 35, 54, 38, 55, 99, 100, 101, 102, 103, 104] (by decide +kernel) (by decide +kernel)
set_option maxRecDepth 20000 in
theorem gX7_serial_X6_send : GoodIn wsX7_serial (wsV RX7 110 RX6 yX6_send wsX6_send) := goodIn_app (goodIn_of _ (by decide +kernel)) ggX7_serial_X6_send
set_option maxRecDepth 20000 in
theorem ggX7_serial_X6_takesSent : GoodIn wsX7_serial wsX6_takesSent := goodIn_r _ [59, 60, 38, 55, 61, 62, 63, 35, 64, 65, 66, 67, 68, 69, 99, 100, 101, 102, 103, 104] (by decide +kernel) (by decide +kernel)
set_option maxRecDepth 20000 in
theorem gX7_serial_X6_takesSent : GoodIn wsX7_serial (wsV RX7 69 RX6 yX6_takesSent wsX6_takesSent) := goodIn_app (goodIn_of _ (by decide +kernel)) ggX7_serial_X6_takesSent
set_option maxRecDepth 20000 in
theorem ggX7_serial_X7_checkFlips : GoodIn wsX7_serial wsX7_checkFlips := goodIn_ca (goodIn_r _ [72, 73, 74] (by decide +kernel) (by decide +kernel)) (goodIn_sub (fun _ h => List.mem_cons_of_mem _ (List.mem_append_right _ h)) (by decide +kernel))
set_option maxRecDepth 20000 in
theorem gX7_serial_X7_checkFlips : GoodIn wsX7_serial (va_wsS RX7 73 yX7_checkFlips wsX7_checkFlips) := goodIn_app (goodIn_of _ (by decide +kernel)) ggX7_serial_X7_checkFlips
set_option maxRecDepth 20000 in
theorem ggX7_serial_X6_flipSent : GoodIn wsX7_serial wsX6_flipSent := goodIn_r _ [78, 38, 55, 79, 80, 81, 35, 82, 61, 62, 63, 64, 60, 65, 66, 67, 68, 69, 83, 84, 85, 86, 87, 88, 89, 90, 99, 100, 101, 102, 103, 104] (by decide +kernel) (by decide +kernel)
set_option maxRecDepth 20000 in
theorem gX7_serial_X6_flipSent : GoodIn wsX7_serial (wsV RX7 76 RX6 yX6_flipSent wsX6_flipSent) := goodIn_app (goodIn_of _ (by decide +kernel)) ggX7_serial_X6_flipSent
set_option maxRecDepth 20000 in
theorem ggX7_twoWires_X7_checkWire : GoodIn wsX7_twoWires wsX7_checkWire := goodIn_ca (goodIn_r _ [7, 8, 9] (by decide +kernel) (by decide +kernel)) (goodIn_sub (fun _ h => List.mem_cons_of_mem _ (List.mem_append_left _ (List.mem_append_left _ (List.mem_append_right _ h)))) (by decide +kernel))
set_option maxRecDepth 20000 in
theorem gX7_twoWires_X7_checkWire : GoodIn wsX7_twoWires (va_wsS RX7 51 yX7_checkWire wsX7_checkWire) := goodIn_app (goodIn_of _ (by decide +kernel)) ggX7_twoWires_X7_checkWire
set_option maxRecDepth 20000 in
theorem ggX7_twoWires_X7_checkRange : GoodIn wsX7_twoWires wsX7_checkRange := goodIn_ca (goodIn_r _ [12, 13, 14] (by decide +kernel) (by decide +kernel)) (goodIn_sub (fun _ h => List.mem_cons_of_mem _ (List.mem_append_left _ (List.mem_append_right _ h))) (by decide +kernel))
set_option maxRecDepth 20000 in
theorem gX7_twoWires_X7_checkRange : GoodIn wsX7_twoWires (va_wsS RX7 58 yX7_checkRange wsX7_checkRange) := goodIn_app (goodIn_of _ (by decide +kernel)) ggX7_twoWires_X7_checkRange
set_option maxRecDepth 20000 in
theorem ggX7_twoWires_X7_checkApart : GoodIn wsX7_twoWires wsX7_checkApart := goodIn_ca (goodIn_r _ [17, 13, 14] (by decide +kernel) (by decide +kernel)) (goodIn_sub (fun _ h => List.mem_cons_of_mem _ (List.mem_append_left _ (List.mem_append_right _ h))) (by decide +kernel))
set_option maxRecDepth 20000 in
theorem gX7_twoWires_X7_checkApart : GoodIn wsX7_twoWires (va_wsS RX7 114 yX7_checkApart wsX7_checkApart) := goodIn_app (goodIn_of _ (by decide +kernel)) ggX7_twoWires_X7_checkApart
set_option maxRecDepth 20000 in
theorem ggX7_twoWires_X7_answeredByte : GoodIn wsX7_twoWires wsX7_answeredByte := goodIn_r _ [20] (by decide +kernel) (by decide +kernel)
set_option maxRecDepth 20000 in
theorem gX7_twoWires_X7_answeredByte : GoodIn wsX7_twoWires (va_wsS RX7 118 yX7_answeredByte wsX7_answeredByte) := goodIn_app (goodIn_of _ (by decide +kernel)) ggX7_twoWires_X7_answeredByte
set_option maxRecDepth 20000 in
theorem ggX7_twoWires_X7_planTwoWires : GoodIn wsX7_twoWires wsX7_planTwoWires := goodIn_r _ [24, 25, 26, 27, 28, 29, 30, 31, 32, 33, 34, 35, 36, 37, 38, 39, 40, 41, 42, 43, 6, 44, 45, 46, 47, 48, 92, 93, 94, 95, 96, 97, 84, 85, 86, 87, 88, 89, 90, 91] (by decide +kernel) (by decide +kernel)
set_option maxRecDepth 20000 in
theorem gX7_twoWires_X7_planTwoWires : GoodIn wsX7_twoWires (wsV RX7 122 RX7 yX7_planTwoWires wsX7_planTwoWires) := goodIn_app (goodIn_of _ (by decide +kernel)) ggX7_twoWires_X7_planTwoWires
set_option maxRecDepth 20000 in
theorem ggX7_twoWires_X6_takesSent : GoodIn wsX7_twoWires wsX6_takesSent := goodIn_r _ [52, 53, 31, 40, 54, 55, 56, 28, 57, 58, 59, 60, 61, 62, 92, 93, 94, 95, 96, 97] (by decide +kernel) (by decide +kernel)
set_option maxRecDepth 20000 in
theorem gX7_twoWires_X6_takesSent : GoodIn wsX7_twoWires (wsV RX7 69 RX6 yX6_takesSent wsX6_takesSent) := goodIn_app (goodIn_of _ (by decide +kernel)) ggX7_twoWires_X6_takesSent
set_option maxRecDepth 20000 in
theorem ggX7_twoWires_X7_checkFlips : GoodIn wsX7_twoWires wsX7_checkFlips := goodIn_ca (goodIn_r _ [65, 66, 67] (by decide +kernel) (by decide +kernel)) (goodIn_sub (fun _ h => List.mem_cons_of_mem _ (List.mem_append_right _ h)) (by decide +kernel))
set_option maxRecDepth 20000 in
theorem gX7_twoWires_X7_checkFlips : GoodIn wsX7_twoWires (va_wsS RX7 73 yX7_checkFlips wsX7_checkFlips) := goodIn_app (goodIn_of _ (by decide +kernel)) ggX7_twoWires_X7_checkFlips
set_option maxRecDepth 20000 in
theorem ggX7_twoWires_X6_flipSent : GoodIn wsX7_twoWires wsX6_flipSent := goodIn_r _ [71, 31, 40, 72, 73, 74, 28, 75, 54, 55, 56, 57, 53, 58, 59, 60, 61, 62, 76, 77, 78, 79, 80, 81, 82, 83, 92, 93, 94, 95, 96, 97] (by decide +kernel) (by decide +kernel)
set_option maxRecDepth 20000 in
theorem gX7_twoWires_X6_flipSent : GoodIn wsX7_twoWires (wsV RX7 76 RX6 yX6_flipSent wsX6_flipSent) := goodIn_app (goodIn_of _ (by decide +kernel)) ggX7_twoWires_X6_flipSent
set_option maxRecDepth 20000 in
theorem ggX7_twoWires_X7_tickBehind : GoodIn wsX7_twoWires wsX7_tickBehind := goodIn_r _ [44, 45, 84, 85, 86, 87, 88, 89, 90, 91] (by decide +kernel) (by decide +kernel)
set_option maxRecDepth 20000 in
theorem gX7_twoWires_X7_tickBehind : GoodIn wsX7_twoWires (wsV RX7 106 RX7 yX7_tickBehind wsX7_tickBehind) := goodIn_app (goodIn_of _ (by decide +kernel)) ggX7_twoWires_X7_tickBehind
set_option maxRecDepth 20000 in
theorem ggX7_fourWires_X7_checkWire : GoodIn wsX7_fourWires wsX7_checkWire := goodIn_ca (goodIn_r _ [5, 6, 7] (by decide +kernel) (by decide +kernel)) (goodIn_sub (fun _ h => List.mem_cons_of_mem _ (List.mem_append_left _ (List.mem_append_left _ (List.mem_append_right _ h)))) (by decide +kernel))
set_option maxRecDepth 20000 in
theorem gX7_fourWires_X7_checkWire : GoodIn wsX7_fourWires (va_wsS RX7 51 yX7_checkWire wsX7_checkWire) := goodIn_app (goodIn_of _ (by decide +kernel)) ggX7_fourWires_X7_checkWire
set_option maxRecDepth 20000 in
theorem ggX7_fourWires_X7_checkRange : GoodIn wsX7_fourWires wsX7_checkRange := goodIn_ca (goodIn_r _ [10, 11, 12] (by decide +kernel) (by decide +kernel)) (goodIn_sub (fun _ h => List.mem_cons_of_mem _ (List.mem_append_left _ (List.mem_append_right _ h))) (by decide +kernel))
set_option maxRecDepth 20000 in
theorem gX7_fourWires_X7_checkRange : GoodIn wsX7_fourWires (va_wsS RX7 58 yX7_checkRange wsX7_checkRange) := goodIn_app (goodIn_of _ (by decide +kernel)) ggX7_fourWires_X7_checkRange
set_option maxRecDepth 20000 in
theorem ggX7_fourWires_X7_checkThreeApart : GoodIn wsX7_fourWires wsX7_checkThreeApart := goodIn_ca (goodIn_r _ [15, 16, 17, 4, 18, 11, 12] (by decide +kernel) (by decide +kernel)) (goodIn_sub (fun _ h => List.mem_cons_of_mem _ (List.mem_append_left _ (List.mem_append_right _ h))) (by decide +kernel))
set_option maxRecDepth 20000 in
theorem gX7_fourWires_X7_checkThreeApart : GoodIn wsX7_fourWires (va_wsS RX7 126 yX7_checkThreeApart wsX7_checkThreeApart) := goodIn_app (goodIn_of _ (by decide +kernel)) ggX7_fourWires_X7_checkThreeApart
set_option maxRecDepth 20000 in
theorem ggX7_fourWires_X7_tickBehind : GoodIn wsX7_fourWires wsX7_tickBehind := goodIn_r _ [22, 23, 89, 90, 91, 92, 93, 94, 95, 96] (by decide +kernel) (by decide +kernel)
set_option maxRecDepth 20000 in
theorem gX7_fourWires_X7_tickBehind : GoodIn wsX7_fourWires (wsV RX7 106 RX7 yX7_tickBehind wsX7_tickBehind) := goodIn_app (goodIn_of _ (by decide +kernel)) ggX7_fourWires_X7_tickBehind
set_option maxRecDepth 20000 in
theorem ggX7_fourWires_X7_planSelect : GoodIn wsX7_fourWires wsX7_planSelect := goodIn_r _ [26, 27, 28, 29, 30, 31, 32, 33, 34, 35, 36, 37, 38, 39, 40, 41, 42, 97, 98, 99, 100, 101, 102] (by decide +kernel) (by decide +kernel)
set_option maxRecDepth 20000 in
theorem gX7_fourWires_X7_planSelect : GoodIn wsX7_fourWires (va_wsS RX7 129 yX7_planSelect wsX7_planSelect) := goodIn_app (goodIn_of _ (by decide +kernel)) ggX7_fourWires_X7_planSelect
set_option maxRecDepth 20000 in
theorem ggX7_fourWires_X7_planFourClock : GoodIn wsX7_fourWires wsX7_planFourClock := goodIn_r _ [46, 27, 28, 29, 30, 31, 32, 33, 19, 20, 21, 4, 22, 23, 34, 35, 36, 37, 38, 39, 40, 41, 42, 97, 98, 99, 100, 101, 102, 89, 90, 91, 92, 93, 94, 95, 96] (by decide +kernel) (by decide +kernel)
set_option maxRecDepth 20000 in
theorem gX7_fourWires_X7_planFourClock : GoodIn wsX7_fourWires (wsV RX7 133 RX7 yX7_planFourClock wsX7_planFourClock) := goodIn_app (goodIn_of _ (by decide +kernel)) ggX7_fourWires_X7_planFourClock
set_option maxRecDepth 20000 in
theorem ggX7_fourWires_X7_planFourData : GoodIn wsX7_fourWires wsX7_planFourData := goodIn_r _ [50, 27, 28, 29, 30, 31, 32, 33, 51, 52, 4, 53, 19, 20, 21, 22, 23, 34, 35, 36, 37, 38, 39, 40, 41, 42, 97, 98, 99, 100, 101, 102, 89, 90, 91, 92, 93, 94, 95, 96] (by decide +kernel) (by decide +kernel)
set_option maxRecDepth 20000 in
theorem gX7_fourWires_X7_planFourData : GoodIn wsX7_fourWires (wsV RX7 137 RX7 yX7_planFourData wsX7_planFourData) := goodIn_app (goodIn_of _ (by decide +kernel)) ggX7_fourWires_X7_planFourData
set_option maxRecDepth 20000 in
theorem ggX7_fourWires_X6_takesSent : GoodIn wsX7_fourWires wsX6_takesSent := goodIn_r _ [57, 58, 33, 42, 59, 60, 61, 30, 62, 63, 64, 65, 66, 67, 97, 98, 99, 100, 101, 102] (by decide +kernel) (by decide +kernel)
set_option maxRecDepth 20000 in
theorem gX7_fourWires_X6_takesSent : GoodIn wsX7_fourWires (wsV RX7 69 RX6 yX6_takesSent wsX6_takesSent) := goodIn_app (goodIn_of _ (by decide +kernel)) ggX7_fourWires_X6_takesSent
set_option maxRecDepth 20000 in
theorem ggX7_fourWires_X7_checkFlips : GoodIn wsX7_fourWires wsX7_checkFlips := goodIn_ca (goodIn_r _ [70, 71, 72] (by decide +kernel) (by decide +kernel)) (goodIn_sub (fun _ h => List.mem_cons_of_mem _ (List.mem_append_right _ h)) (by decide +kernel))
set_option maxRecDepth 20000 in
theorem gX7_fourWires_X7_checkFlips : GoodIn wsX7_fourWires (va_wsS RX7 73 yX7_checkFlips wsX7_checkFlips) := goodIn_app (goodIn_of _ (by decide +kernel)) ggX7_fourWires_X7_checkFlips
set_option maxRecDepth 20000 in
theorem ggX7_fourWires_X6_flipSent : GoodIn wsX7_fourWires wsX6_flipSent := goodIn_r _ [76, 33, 42, 77, 78, 79, 30, 80, 59, 60, 61, 62, 58, 63, 64, 65, 66, 67, 81, 82, 83, 84, 85, 86, 87, 88, 97, 98, 99, 100, 101, 102] (by decide +kernel) (by decide +kernel)
set_option maxRecDepth 20000 in
theorem gX7_fourWires_X6_flipSent : GoodIn wsX7_fourWires (wsV RX7 76 RX6 yX6_flipSent wsX6_flipSent) := goodIn_app (goodIn_of _ (by decide +kernel)) ggX7_fourWires_X6_flipSent
set_option maxRecDepth 20000 in
theorem ggX7_capture_X7_checkCapture : GoodIn wsX7_capture wsX7_checkCapture := goodIn_ca (goodIn_r _ [6, 7, 8] (by decide +kernel) (by decide +kernel)) (goodIn_sub (fun _ h => List.mem_cons_of_mem _ (List.mem_append_left _ (List.mem_append_right _ h))) (by decide +kernel))
set_option maxRecDepth 20000 in
theorem gX7_capture_X7_checkCapture : GoodIn wsX7_capture (va_wsS RX7 141 yX7_checkCapture wsX7_checkCapture) := goodIn_app (goodIn_of _ (by decide +kernel)) ggX7_capture_X7_checkCapture
set_option maxRecDepth 20000 in
theorem ggX7_capture_X7_checkRange : GoodIn wsX7_capture wsX7_checkRange := goodIn_ca (goodIn_r _ [11, 12, 13] (by decide +kernel) (by decide +kernel)) (goodIn_sub (fun _ h => List.mem_cons_of_mem _ (List.mem_append_right _ h)) (by decide +kernel))
set_option maxRecDepth 20000 in
theorem gX7_capture_X7_checkRange : GoodIn wsX7_capture (va_wsS RX7 58 yX7_checkRange wsX7_checkRange) := goodIn_app (goodIn_of _ (by decide +kernel)) ggX7_capture_X7_checkRange
set_option maxRecDepth 20000 in
theorem ggX7_capture_X0_clearFor : GoodIn wsX7_capture wsX0_clearFor := goodIn_r _ [18, 19, 20, 21, 22, 23, 24, 25, 26, 27, 28, 62, 63] (by decide +kernel) (by decide +kernel)
set_option maxRecDepth 20000 in
theorem gX7_capture_X0_clearFor : GoodIn wsX7_capture (wsV RX7 144 RX0 yX0_clearFor wsX0_clearFor) := goodIn_app (goodIn_of _ (by decide +kernel)) ggX7_capture_X0_clearFor
set_option maxRecDepth 20000 in
theorem ggX7_capture_X6_showIn : GoodIn wsX7_capture wsX6_showIn := goodIn_r _ [33, 34, 35, 36, 37, 38, 39, 40, 17, 41, 19, 42, 43, 44, 45, 24, 64, 65, 66, 67, 68, 69, 62, 63] (by decide +kernel) (by decide +kernel)
set_option maxRecDepth 20000 in
theorem gX7_capture_X6_showIn : GoodIn wsX7_capture (wsV RX7 147 RX6 yX6_showIn wsX6_showIn) := goodIn_app (goodIn_of _ (by decide +kernel)) ggX7_capture_X6_showIn
set_option maxRecDepth 20000 in
theorem ggX7_capture_X0_changeCount : GoodIn wsX7_capture wsX0_changeCount := goodIn_r _ [49, 24, 50, 51, 52, 17, 53, 19, 42, 43, 44, 45, 62, 63] (by decide +kernel) (by decide +kernel)
set_option maxRecDepth 20000 in
theorem gX7_capture_X0_changeCount : GoodIn wsX7_capture (wsV RX7 151 RX0 yX0_changeCount wsX0_changeCount) := goodIn_app (goodIn_of _ (by decide +kernel)) ggX7_capture_X0_changeCount
set_option maxRecDepth 20000 in
theorem ggX7_samples_X7_checkCapture : GoodIn wsX7_samples wsX7_checkCapture := goodIn_ca (goodIn_r _ [6, 7, 8] (by decide +kernel) (by decide +kernel)) (goodIn_sub (fun _ h => List.mem_cons_of_mem _ (List.mem_append_right _ h)) (by decide +kernel))
set_option maxRecDepth 20000 in
theorem gX7_samples_X7_checkCapture : GoodIn wsX7_samples (va_wsS RX7 141 yX7_checkCapture wsX7_checkCapture) := goodIn_app (goodIn_of _ (by decide +kernel)) ggX7_samples_X7_checkCapture
set_option maxRecDepth 20000 in
theorem ggX7_sample_X7_checkCapture : GoodIn wsX7_sample wsX7_checkCapture := goodIn_ca (goodIn_r _ [5, 6, 7] (by decide +kernel) (by decide +kernel)) (goodIn_sub (fun _ h => List.mem_cons_of_mem _ (List.mem_append_left _ (List.mem_append_right _ h))) (by decide +kernel))
set_option maxRecDepth 20000 in
theorem gX7_sample_X7_checkCapture : GoodIn wsX7_sample (va_wsS RX7 141 yX7_checkCapture wsX7_checkCapture) := goodIn_app (goodIn_of _ (by decide +kernel)) ggX7_sample_X7_checkCapture
set_option maxRecDepth 20000 in
theorem ggX7_sample_X0_has : GoodIn wsX7_sample wsX0_has := goodIn_r _ [12, 13, 14, 33, 34] (by decide +kernel) (by decide +kernel)
set_option maxRecDepth 20000 in
theorem gX7_sample_X0_has : GoodIn wsX7_sample (wsV RX7 156 RX0 yX0_has wsX0_has) := goodIn_app (goodIn_of _ (by decide +kernel)) ggX7_sample_X0_has
set_option maxRecDepth 20000 in
theorem ggX7_sample_X7_checkThere : GoodIn wsX7_sample wsX7_checkThere := goodIn_ca (goodIn_r _ [17, 18, 19] (by decide +kernel) (by decide +kernel)) (goodIn_sub (fun _ h => List.mem_cons_of_mem _ (List.mem_append_right _ h)) (by decide +kernel))
set_option maxRecDepth 20000 in
theorem gX7_sample_X7_checkThere : GoodIn wsX7_sample (va_wsS RX7 159 yX7_checkThere wsX7_checkThere) := goodIn_app (goodIn_of _ (by decide +kernel)) ggX7_sample_X7_checkThere
set_option maxRecDepth 20000 in
theorem ggX7_sample_X0_levelsAt : GoodIn wsX7_sample wsX0_levelsAt := goodIn_r _ [23, 14, 24, 9, 10, 11, 12, 13, 33, 34] (by decide +kernel) (by decide +kernel)
set_option maxRecDepth 20000 in
theorem gX7_sample_X0_levelsAt : GoodIn wsX7_sample (wsV RX7 162 RX0 yX0_levelsAt wsX0_levelsAt) := goodIn_app (goodIn_of _ (by decide +kernel)) ggX7_sample_X0_levelsAt
set_option maxRecDepth 20000 in
theorem ggX7_runs_X7_checkCapture : GoodIn wsX7_runs wsX7_checkCapture := goodIn_ca (goodIn_r _ [5, 6, 7] (by decide +kernel) (by decide +kernel)) (goodIn_sub (fun _ h => List.mem_cons_of_mem _ (List.mem_append_right _ h)) (by decide +kernel))
set_option maxRecDepth 20000 in
theorem gX7_runs_X7_checkCapture : GoodIn wsX7_runs (va_wsS RX7 141 yX7_checkCapture wsX7_checkCapture) := goodIn_app (goodIn_of _ (by decide +kernel)) ggX7_runs_X7_checkCapture
set_option maxRecDepth 20000 in
theorem ggX7_runs_X7_checkWire : GoodIn wsX7_runs wsX7_checkWire := goodIn_ca (goodIn_r _ [10, 6, 7] (by decide +kernel) (by decide +kernel)) (goodIn_sub (fun _ h => List.mem_cons_of_mem _ (List.mem_append_right _ h)) (by decide +kernel))
set_option maxRecDepth 20000 in
theorem gX7_runs_X7_checkWire : GoodIn wsX7_runs (va_wsS RX7 51 yX7_checkWire wsX7_checkWire) := goodIn_app (goodIn_of _ (by decide +kernel)) ggX7_runs_X7_checkWire
set_option maxRecDepth 20000 in
theorem ggX7_runs_X0_runCount : GoodIn wsX7_runs wsX0_runCount := goodIn_r _ [15, 16, 17, 18, 19, 14, 20, 21, 22, 23, 24, 25, 26, 27, 28, 29, 38, 39] (by decide +kernel) (by decide +kernel)
set_option maxRecDepth 20000 in
theorem gX7_runs_X0_runCount : GoodIn wsX7_runs (wsV RX7 166 RX0 yX0_runCount wsX0_runCount) := goodIn_app (goodIn_of _ (by decide +kernel)) ggX7_runs_X0_runCount
set_option maxRecDepth 20000 in
theorem ggX7_run_X7_checkCapture : GoodIn wsX7_run wsX7_checkCapture := goodIn_ca (goodIn_r _ [5, 6, 7] (by decide +kernel) (by decide +kernel)) (goodIn_sub (fun _ h => List.mem_cons_of_mem _ (List.mem_append_left _ (List.mem_append_right _ h))) (by decide +kernel))
set_option maxRecDepth 20000 in
theorem gX7_run_X7_checkCapture : GoodIn wsX7_run (va_wsS RX7 141 yX7_checkCapture wsX7_checkCapture) := goodIn_app (goodIn_of _ (by decide +kernel)) ggX7_run_X7_checkCapture
set_option maxRecDepth 20000 in
theorem ggX7_run_X7_checkWire : GoodIn wsX7_run wsX7_checkWire := goodIn_ca (goodIn_r _ [10, 6, 7] (by decide +kernel) (by decide +kernel)) (goodIn_sub (fun _ h => List.mem_cons_of_mem _ (List.mem_append_left _ (List.mem_append_right _ h))) (by decide +kernel))
set_option maxRecDepth 20000 in
theorem gX7_run_X7_checkWire : GoodIn wsX7_run (va_wsS RX7 51 yX7_checkWire wsX7_checkWire) := goodIn_app (goodIn_of _ (by decide +kernel)) ggX7_run_X7_checkWire
set_option maxRecDepth 20000 in
theorem ggX7_run_X0_runLength : GoodIn wsX7_run wsX0_runLength := goodIn_r _ [15, 16, 17, 18, 19, 14, 20, 21, 22, 23, 24, 25, 26, 27, 28, 29, 43, 44] (by decide +kernel) (by decide +kernel)
set_option maxRecDepth 20000 in
theorem gX7_run_X0_runLength : GoodIn wsX7_run (wsV RX7 169 RX0 yX0_runLength wsX0_runLength) := goodIn_app (goodIn_of _ (by decide +kernel)) ggX7_run_X0_runLength
set_option maxRecDepth 20000 in
theorem ggX7_run_X7_checkThere : GoodIn wsX7_run wsX7_checkThere := goodIn_ca (goodIn_r _ [32, 33, 34] (by decide +kernel) (by decide +kernel)) (goodIn_sub (fun _ h => List.mem_cons_of_mem _ (List.mem_append_right _ h)) (by decide +kernel))
set_option maxRecDepth 20000 in
theorem gX7_run_X7_checkThere : GoodIn wsX7_run (va_wsS RX7 159 yX7_checkThere wsX7_checkThere) := goodIn_app (goodIn_of _ (by decide +kernel)) ggX7_run_X7_checkThere
set_option maxRecDepth 20000 in
theorem ggX7_shortest_X7_shortestRunOf : GoodIn wsX7_shortest wsX7_shortestRunOf := goodIn_ca (goodIn_ca (goodIn_r _ [5, 6, 7, 8, 4, 9, 10, 11, 12, 13, 14, 15, 16, 17, 18, 19, 20, 21, 22, 23, 24, 25, 26, 27, 28, 29, 30, 31, 32, 33, 34, 35, 36, 37, 38, 39, 40, 41, 42, 43, 44, 45, 46, 47, 48] (by decide +kernel) (by decide +kernel)) (goodIn_sub (fun _ h => List.mem_cons_of_mem _ (List.mem_append_left _ (List.mem_append_right _ h))) (by decide +kernel))) (goodIn_sub (fun _ h => List.mem_cons_of_mem _ (List.mem_append_right _ h)) (by decide +kernel))
set_option maxRecDepth 20000 in
theorem gX7_shortest_X7_shortestRunOf : GoodIn wsX7_shortest (wsV RX7 172 RX7 yX7_shortestRunOf wsX7_shortestRunOf) := goodIn_app (goodIn_of _ (by decide +kernel)) ggX7_shortest_X7_shortestRunOf
set_option maxRecDepth 20000 in
theorem ggX7_block_X7_checkCapture : GoodIn wsX7_block wsX7_checkCapture := goodIn_ca (goodIn_r _ [5, 6, 7] (by decide +kernel) (by decide +kernel)) (goodIn_sub (fun _ h => List.mem_cons_of_mem _ (List.mem_append_left _ (List.mem_append_left _ (List.mem_append_right _ h)))) (by decide +kernel))
set_option maxRecDepth 20000 in
theorem gX7_block_X7_checkCapture : GoodIn wsX7_block (va_wsS RX7 141 yX7_checkCapture wsX7_checkCapture) := goodIn_app (goodIn_of _ (by decide +kernel)) ggX7_block_X7_checkCapture
set_option maxRecDepth 20000 in
theorem ggX7_block_X7_checkWire : GoodIn wsX7_block wsX7_checkWire := goodIn_ca (goodIn_r _ [10, 6, 7] (by decide +kernel) (by decide +kernel)) (goodIn_sub (fun _ h => List.mem_cons_of_mem _ (List.mem_append_left _ (List.mem_append_left _ (List.mem_append_right _ h)))) (by decide +kernel))
set_option maxRecDepth 20000 in
theorem gX7_block_X7_checkWire : GoodIn wsX7_block (va_wsS RX7 51 yX7_checkWire wsX7_checkWire) := goodIn_app (goodIn_of _ (by decide +kernel)) ggX7_block_X7_checkWire
set_option maxRecDepth 20000 in
theorem ggX7_block_X7_checkRange : GoodIn wsX7_block wsX7_checkRange := goodIn_ca (goodIn_r _ [13, 14, 15] (by decide +kernel) (by decide +kernel)) (goodIn_sub (fun _ h => List.mem_cons_of_mem _ (List.mem_append_left _ (List.mem_append_right _ h))) (by decide +kernel))
set_option maxRecDepth 20000 in
theorem gX7_block_X7_checkRange : GoodIn wsX7_block (va_wsS RX7 58 yX7_checkRange wsX7_checkRange) := goodIn_app (goodIn_of _ (by decide +kernel)) ggX7_block_X7_checkRange
set_option maxRecDepth 20000 in
theorem ggX7_block_X0_blockCount : GoodIn wsX7_block wsX0_blockCount := goodIn_r _ [20, 21, 56, 57] (by decide +kernel) (by decide +kernel)
set_option maxRecDepth 20000 in
theorem gX7_block_X0_blockCount : GoodIn wsX7_block (wsV RX7 175 RX0 yX0_blockCount wsX0_blockCount) := goodIn_app (goodIn_of _ (by decide +kernel)) ggX7_block_X0_blockCount
set_option maxRecDepth 20000 in
theorem ggX7_block_X7_checkThere : GoodIn wsX7_block wsX7_checkThere := goodIn_ca (goodIn_r _ [24, 25, 26] (by decide +kernel) (by decide +kernel)) (goodIn_sub (fun _ h => List.mem_cons_of_mem _ (List.mem_append_right _ h)) (by decide +kernel))
set_option maxRecDepth 20000 in
theorem gX7_block_X7_checkThere : GoodIn wsX7_block (va_wsS RX7 159 yX7_checkThere wsX7_checkThere) := goodIn_app (goodIn_of _ (by decide +kernel)) ggX7_block_X7_checkThere
set_option maxRecDepth 20000 in
theorem ggX7_block_X0_blockSign : GoodIn wsX7_block wsX0_blockSign := goodIn_r _ [30, 21, 31, 32, 33, 34, 35, 36, 37, 19, 38, 39, 40, 41, 42, 43, 44, 45, 46, 47, 56, 57] (by decide +kernel) (by decide +kernel)
set_option maxRecDepth 20000 in
theorem gX7_block_X0_blockSign : GoodIn wsX7_block (wsV RX7 178 RX0 yX0_blockSign wsX0_blockSign) := goodIn_app (goodIn_of _ (by decide +kernel)) ggX7_block_X0_blockSign
set_option maxRecDepth 20000 in
theorem ggX7_step_X7_checkWire : GoodIn wsX7_step wsX7_checkWire := goodIn_ca (goodIn_r _ [6, 7, 8] (by decide +kernel) (by decide +kernel)) (goodIn_sub (fun _ h => List.mem_cons_of_mem _ (List.mem_append_left _ (List.mem_append_left _ (List.mem_append_right _ h)))) (by decide +kernel))
set_option maxRecDepth 20000 in
theorem gX7_step_X7_checkWire : GoodIn wsX7_step (va_wsS RX7 51 yX7_checkWire wsX7_checkWire) := goodIn_app (goodIn_of _ (by decide +kernel)) ggX7_step_X7_checkWire
set_option maxRecDepth 20000 in
theorem ggX7_step_X7_checkStepKind : GoodIn wsX7_step wsX7_checkStepKind := goodIn_ca (goodIn_r _ [11, 12, 13] (by decide +kernel) (by decide +kernel)) (goodIn_sub (fun _ h => List.mem_cons_of_mem _ (List.mem_append_left _ (List.mem_append_right _ h))) (by decide +kernel))
set_option maxRecDepth 20000 in
theorem gX7_step_X7_checkStepKind : GoodIn wsX7_step (va_wsS RX7 182 yX7_checkStepKind wsX7_checkStepKind) := goodIn_app (goodIn_of _ (by decide +kernel)) ggX7_step_X7_checkStepKind
set_option maxRecDepth 20000 in
theorem ggX7_step_X7_checkRange : GoodIn wsX7_step wsX7_checkRange := goodIn_ca (goodIn_r _ [16, 12, 13] (by decide +kernel) (by decide +kernel)) (goodIn_sub (fun _ h => List.mem_cons_of_mem _ (List.mem_append_left _ (List.mem_append_right _ h))) (by decide +kernel))
set_option maxRecDepth 20000 in
theorem gX7_step_X7_checkRange : GoodIn wsX7_step (va_wsS RX7 58 yX7_checkRange wsX7_checkRange) := goodIn_app (goodIn_of _ (by decide +kernel)) ggX7_step_X7_checkRange
set_option maxRecDepth 20000 in
theorem ggX7_step_X7_checkFreeStep : GoodIn wsX7_step wsX7_checkFreeStep := goodIn_ca (goodIn_r _ [20, 21, 22, 1, 2, 32, 33, 34, 35, 36, 37, 38, 39, 40, 41, 42, 43] (by decide +kernel) (by decide +kernel)) (goodIn_sub (fun _ h => List.mem_cons_of_mem _ (List.mem_append_right _ h)) (by decide +kernel))
set_option maxRecDepth 20000 in
theorem gX7_step_X7_checkFreeStep : GoodIn wsX7_step (wsV RX7 185 RX7 yX7_checkFreeStep wsX7_checkFreeStep) := goodIn_app (goodIn_of _ (by decide +kernel)) ggX7_step_X7_checkFreeStep
set_option maxRecDepth 20000 in
theorem ggX7_step_X4_addStep : GoodIn wsX7_step wsX4_addStep := goodIn_r _ [27, 28, 29, 30, 31, 40, 41, 42, 43] (by decide +kernel) (by decide +kernel)
set_option maxRecDepth 20000 in
theorem gX7_step_X4_addStep : GoodIn wsX7_step (wsV RX7 188 RX4 yX4_addStep wsX4_addStep) := goodIn_app (goodIn_of _ (by decide +kernel)) ggX7_step_X4_addStep
set_option maxRecDepth 20000 in
theorem ggX7_trigger_X7_checkCapture : GoodIn wsX7_trigger wsX7_checkCapture := goodIn_ca (goodIn_r _ [7, 8, 9] (by decide +kernel) (by decide +kernel)) (goodIn_sub (fun _ h => List.mem_cons_of_mem _ (List.mem_append_left _ (List.mem_append_left _ (List.mem_append_right _ h)))) (by decide +kernel))
set_option maxRecDepth 20000 in
theorem gX7_trigger_X7_checkCapture : GoodIn wsX7_trigger (va_wsS RX7 141 yX7_checkCapture wsX7_checkCapture) := goodIn_app (goodIn_of _ (by decide +kernel)) ggX7_trigger_X7_checkCapture
set_option maxRecDepth 20000 in
theorem ggX7_trigger_X7_checkUse : GoodIn wsX7_trigger wsX7_checkUse := goodIn_ca (goodIn_r _ [12, 13, 14] (by decide +kernel) (by decide +kernel)) (goodIn_sub (fun _ h => List.mem_cons_of_mem _ (List.mem_append_left _ (List.mem_append_right _ h))) (by decide +kernel))
set_option maxRecDepth 20000 in
theorem gX7_trigger_X7_checkUse : GoodIn wsX7_trigger (va_wsS RX7 193 yX7_checkUse wsX7_checkUse) := goodIn_app (goodIn_of _ (by decide +kernel)) ggX7_trigger_X7_checkUse
set_option maxRecDepth 20000 in
theorem ggX7_trigger_X4_metIn : GoodIn wsX7_trigger wsX4_metIn := goodIn_r _ [19, 20, 21, 22, 23, 24, 25, 18, 26, 27, 28, 29, 30, 31, 32, 33, 34, 35, 36, 37, 38, 39, 40, 41, 42, 43, 44, 45, 46, 47, 48, 49, 50, 51, 52, 53, 54, 68, 69, 70, 71, 72, 73] (by decide +kernel) (by decide +kernel)
set_option maxRecDepth 20000 in
theorem gX7_trigger_X4_metIn : GoodIn wsX7_trigger (wsV RX7 196 RX4 yX4_metIn wsX4_metIn) := goodIn_app (goodIn_of _ (by decide +kernel)) ggX7_trigger_X4_metIn
set_option maxRecDepth 20000 in
theorem ggX7_trigger_X7_checkThere : GoodIn wsX7_trigger wsX7_checkThere := goodIn_ca (goodIn_r _ [57, 58, 59] (by decide +kernel) (by decide +kernel)) (goodIn_sub (fun _ h => List.mem_cons_of_mem _ (List.mem_append_right _ h)) (by decide +kernel))
set_option maxRecDepth 20000 in
theorem gX7_trigger_X7_checkThere : GoodIn wsX7_trigger (va_wsS RX7 159 yX7_checkThere wsX7_checkThere) := goodIn_app (goodIn_of _ (by decide +kernel)) ggX7_trigger_X7_checkThere
set_option maxRecDepth 20000 in
theorem ggX7_decodeSerial_X7_checkCapture : GoodIn wsX7_decodeSerial wsX7_checkCapture := goodIn_ca (goodIn_r _ [8, 9, 10] (by decide +kernel) (by decide +kernel)) (goodIn_sub (fun _ h => List.mem_cons_of_mem _ (List.mem_append_left _ (List.mem_append_right _ h))) (by decide +kernel))
set_option maxRecDepth 20000 in
theorem gX7_decodeSerial_X7_checkCapture : GoodIn wsX7_decodeSerial (va_wsS RX7 141 yX7_checkCapture wsX7_checkCapture) := goodIn_app (goodIn_of _ (by decide +kernel)) ggX7_decodeSerial_X7_checkCapture
set_option maxRecDepth 20000 in
theorem ggX7_decodeSerial_X7_checkWire : GoodIn wsX7_decodeSerial wsX7_checkWire := goodIn_ca (goodIn_r _ [13, 9, 10] (by decide +kernel) (by decide +kernel)) (goodIn_sub (fun _ h => List.mem_cons_of_mem _ (List.mem_append_left _ (List.mem_append_right _ h))) (by decide +kernel))
set_option maxRecDepth 20000 in
theorem gX7_decodeSerial_X7_checkWire : GoodIn wsX7_decodeSerial (va_wsS RX7 51 yX7_checkWire wsX7_checkWire) := goodIn_app (goodIn_of _ (by decide +kernel)) ggX7_decodeSerial_X7_checkWire
set_option maxRecDepth 20000 in
theorem ggX7_decodeSerial_X7_checkRange : GoodIn wsX7_decodeSerial wsX7_checkRange := goodIn_ca (goodIn_r _ [16, 17, 18] (by decide +kernel) (by decide +kernel)) (goodIn_sub (fun _ h => List.mem_cons_of_mem _ (List.mem_append_right _ h)) (by decide +kernel))
set_option maxRecDepth 20000 in
theorem gX7_decodeSerial_X7_checkRange : GoodIn wsX7_decodeSerial (va_wsS RX7 58 yX7_checkRange wsX7_checkRange) := goodIn_app (goodIn_of _ (by decide +kernel)) ggX7_decodeSerial_X7_checkRange
set_option maxRecDepth 20000 in
theorem ggX7_decodeSerial_X7_checkParity : GoodIn wsX7_decodeSerial wsX7_checkParity := goodIn_ca (goodIn_r _ [21, 17, 18] (by decide +kernel) (by decide +kernel)) (goodIn_sub (fun _ h => List.mem_cons_of_mem _ (List.mem_append_right _ h)) (by decide +kernel))
set_option maxRecDepth 20000 in
theorem gX7_decodeSerial_X7_checkParity : GoodIn wsX7_decodeSerial (va_wsS RX7 90 yX7_checkParity wsX7_checkParity) := goodIn_app (goodIn_of _ (by decide +kernel)) ggX7_decodeSerial_X7_checkParity
set_option maxRecDepth 20000 in
theorem ggX7_decodeSerial_X0_fallsAt : GoodIn wsX7_decodeSerial wsX0_fallsAt := goodIn_r _ [26, 27, 28, 29, 25, 30, 31, 32, 33, 34, 35, 36, 83, 84] (by decide +kernel) (by decide +kernel)
set_option maxRecDepth 20000 in
theorem gX7_decodeSerial_X0_fallsAt : GoodIn wsX7_decodeSerial (wsV RX7 201 RX0 yX0_fallsAt wsX0_fallsAt) := goodIn_app (goodIn_of _ (by decide +kernel)) ggX7_decodeSerial_X0_fallsAt
set_option maxRecDepth 20000 in
theorem ggX7_decodeSerial_X7_tellSerial : GoodIn wsX7_decodeSerial wsX7_tellSerial := goodIn_r _ [40, 4, 1, 41, 42, 7, 43, 44, 45, 46, 47, 28, 29, 25, 30, 31, 32, 33, 34, 35, 36, 48, 49, 50, 51, 52, 53, 54, 55, 56, 57, 58, 59, 60, 61, 62, 63, 64, 65, 66, 67, 68, 83, 84, 69, 70, 71, 72, 73, 74, 75, 76, 77, 78, 79, 80, 81, 82] (by decide +kernel) (by decide +kernel)
set_option maxRecDepth 20000 in
theorem gX7_decodeSerial_X7_tellSerial : GoodIn wsX7_decodeSerial (wsV RX7 204 RX7 yX7_tellSerial wsX7_tellSerial) := goodIn_app (goodIn_of _ (by decide +kernel)) ggX7_decodeSerial_X7_tellSerial
set_option maxRecDepth 20000 in
theorem ggX7_decodeTwo_X7_checkCapture : GoodIn wsX7_decodeTwo wsX7_checkCapture := goodIn_ca (goodIn_r _ [12, 13, 14] (by decide +kernel) (by decide +kernel)) (goodIn_sub (fun _ h => List.mem_cons_of_mem _ (List.mem_append_left _ (List.mem_append_right _ h))) (by decide +kernel))
set_option maxRecDepth 20000 in
theorem gX7_decodeTwo_X7_checkCapture : GoodIn wsX7_decodeTwo (va_wsS RX7 141 yX7_checkCapture wsX7_checkCapture) := goodIn_app (goodIn_of _ (by decide +kernel)) ggX7_decodeTwo_X7_checkCapture
set_option maxRecDepth 20000 in
theorem ggX7_decodeTwo_X7_checkWire : GoodIn wsX7_decodeTwo wsX7_checkWire := goodIn_ca (goodIn_r _ [17, 13, 14] (by decide +kernel) (by decide +kernel)) (goodIn_sub (fun _ h => List.mem_cons_of_mem _ (List.mem_append_left _ (List.mem_append_right _ h))) (by decide +kernel))
set_option maxRecDepth 20000 in
theorem gX7_decodeTwo_X7_checkWire : GoodIn wsX7_decodeTwo (va_wsS RX7 51 yX7_checkWire wsX7_checkWire) := goodIn_app (goodIn_of _ (by decide +kernel)) ggX7_decodeTwo_X7_checkWire
set_option maxRecDepth 20000 in
theorem ggX7_decodeTwo_X7_checkApart : GoodIn wsX7_decodeTwo wsX7_checkApart := goodIn_ca (goodIn_r _ [20, 21, 22] (by decide +kernel) (by decide +kernel)) (goodIn_sub (fun _ h => List.mem_cons_of_mem _ (List.mem_append_right _ h)) (by decide +kernel))
set_option maxRecDepth 20000 in
theorem gX7_decodeTwo_X7_checkApart : GoodIn wsX7_decodeTwo (va_wsS RX7 114 yX7_checkApart wsX7_checkApart) := goodIn_app (goodIn_of _ (by decide +kernel)) ggX7_decodeTwo_X7_checkApart
set_option maxRecDepth 20000 in
theorem ggX7_decodeTwo_X5_init : GoodIn wsX7_decodeTwo wsX5_init := goodIn_r _ [25, 26, 27, 28, 29, 30, 106, 107, 108, 109, 110, 111, 112, 113, 114, 115] (by decide +kernel) (by decide +kernel)
set_option maxRecDepth 20000 in
theorem gX7_decodeTwo_X5_init : GoodIn wsX7_decodeTwo (wsX5_init) := ggX7_decodeTwo_X5_init
set_option maxRecDepth 20000 in
theorem ggX7_decodeTwo_X0_risesAt : GoodIn wsX7_decodeTwo wsX0_risesAt := goodIn_r _ [35, 36, 37, 38, 34, 39, 40, 41, 42, 43, 44, 45, 116, 117] (by decide +kernel) (by decide +kernel)
set_option maxRecDepth 20000 in
theorem gX7_decodeTwo_X0_risesAt : GoodIn wsX7_decodeTwo (wsV RX7 213 RX0 yX0_risesAt wsX0_risesAt) := goodIn_app (goodIn_of _ (by decide +kernel)) ggX7_decodeTwo_X0_risesAt
set_option maxRecDepth 20000 in
theorem ggX7_decodeTwo_X0_isHighAt : GoodIn wsX7_decodeTwo wsX0_isHighAt := goodIn_r _ [39, 40, 41, 42, 43, 34, 44, 45, 116, 117] (by decide +kernel) (by decide +kernel)
set_option maxRecDepth 20000 in
theorem gX7_decodeTwo_X0_isHighAt : GoodIn wsX7_decodeTwo (wsV RX7 216 RX0 yX0_isHighAt wsX0_isHighAt) := goodIn_app (goodIn_of _ (by decide +kernel)) ggX7_decodeTwo_X0_isHighAt
set_option maxRecDepth 20000 in
theorem ggX7_decodeTwo_X5_takeBit : GoodIn wsX7_decodeTwo wsX5_takeBit := goodIn_r _ [50, 51, 52, 53, 54, 55, 56, 57, 6, 58, 29, 59, 60, 61, 62, 30, 63, 64, 65, 66, 67, 68, 69, 70, 71, 72, 73, 74, 75, 76, 77, 78, 79, 106, 107, 108, 109, 110, 111, 112, 113, 114, 115, 100, 101, 102, 103, 104, 105, 118] (by decide +kernel) (by decide +kernel)
set_option maxRecDepth 20000 in
theorem gX7_decodeTwo_X5_takeBit : GoodIn wsX7_decodeTwo (wsV RX7 218 RX5 yX5_takeBit wsX5_takeBit) := goodIn_app (goodIn_of _ (by decide +kernel)) ggX7_decodeTwo_X5_takeBit
set_option maxRecDepth 20000 in
theorem ggX7_decodeTwo_X0_fallsAt : GoodIn wsX7_decodeTwo wsX0_fallsAt := goodIn_r _ [83, 36, 37, 38, 34, 39, 40, 41, 42, 43, 44, 45, 116, 117] (by decide +kernel) (by decide +kernel)
set_option maxRecDepth 20000 in
theorem gX7_decodeTwo_X0_fallsAt : GoodIn wsX7_decodeTwo (wsV RX7 201 RX0 yX0_fallsAt wsX0_fallsAt) := goodIn_app (goodIn_of _ (by decide +kernel)) ggX7_decodeTwo_X0_fallsAt
set_option maxRecDepth 20000 in
theorem ggX7_decodeTwo_X5_takeStart : GoodIn wsX7_decodeTwo wsX5_takeStart := goodIn_r _ [87, 29, 51, 52, 59, 63, 64, 65, 66, 67, 68, 69, 70, 71, 72, 73, 106, 107, 108, 109, 110, 111, 112, 113, 114, 115, 100, 101, 102, 103, 104, 105] (by decide +kernel) (by decide +kernel)
set_option maxRecDepth 20000 in
theorem gX7_decodeTwo_X5_takeStart : GoodIn wsX7_decodeTwo (wsV RX7 221 RX5 yX5_takeStart wsX5_takeStart) := goodIn_app (goodIn_of _ (by decide +kernel)) ggX7_decodeTwo_X5_takeStart
set_option maxRecDepth 20000 in
theorem ggX7_decodeTwo_X5_takeEnd : GoodIn wsX7_decodeTwo wsX5_takeEnd := goodIn_r _ [91, 29, 51, 63, 64, 65, 66, 67, 68, 69, 70, 71, 72, 73, 106, 107, 108, 109, 110, 111, 112, 113, 114, 115, 100, 101, 102, 103, 104, 105] (by decide +kernel) (by decide +kernel)
set_option maxRecDepth 20000 in
theorem gX7_decodeTwo_X5_takeEnd : GoodIn wsX7_decodeTwo (wsV RX7 224 RX5 yX5_takeEnd wsX5_takeEnd) := goodIn_app (goodIn_of _ (by decide +kernel)) ggX7_decodeTwo_X5_takeEnd
set_option maxRecDepth 20000 in
theorem ggX7_decodeFour_X7_checkCapture : GoodIn wsX7_decodeFour wsX7_checkCapture := goodIn_ca (goodIn_r _ [11, 12, 13] (by decide +kernel) (by decide +kernel)) (goodIn_sub (fun _ h => List.mem_cons_of_mem _ (List.mem_append_left _ (List.mem_append_right _ h))) (by decide +kernel))
set_option maxRecDepth 20000 in
theorem gX7_decodeFour_X7_checkCapture : GoodIn wsX7_decodeFour (va_wsS RX7 141 yX7_checkCapture wsX7_checkCapture) := goodIn_app (goodIn_of _ (by decide +kernel)) ggX7_decodeFour_X7_checkCapture
set_option maxRecDepth 20000 in
theorem ggX7_decodeFour_X7_checkWire : GoodIn wsX7_decodeFour wsX7_checkWire := goodIn_ca (goodIn_r _ [16, 12, 13] (by decide +kernel) (by decide +kernel)) (goodIn_sub (fun _ h => List.mem_cons_of_mem _ (List.mem_append_left _ (List.mem_append_right _ h))) (by decide +kernel))
set_option maxRecDepth 20000 in
theorem gX7_decodeFour_X7_checkWire : GoodIn wsX7_decodeFour (va_wsS RX7 51 yX7_checkWire wsX7_checkWire) := goodIn_app (goodIn_of _ (by decide +kernel)) ggX7_decodeFour_X7_checkWire
set_option maxRecDepth 20000 in
theorem ggX7_decodeFour_X7_checkThreeApart : GoodIn wsX7_decodeFour wsX7_checkThreeApart := goodIn_ca (goodIn_r _ [19, 20, 21, 10, 22, 23, 24] (by decide +kernel) (by decide +kernel)) (goodIn_sub (fun _ h => List.mem_cons_of_mem _ (List.mem_append_right _ h)) (by decide +kernel))
set_option maxRecDepth 20000 in
theorem gX7_decodeFour_X7_checkThreeApart : GoodIn wsX7_decodeFour (va_wsS RX7 126 yX7_checkThreeApart wsX7_checkThreeApart) := goodIn_app (goodIn_of _ (by decide +kernel)) ggX7_decodeFour_X7_checkThreeApart
set_option maxRecDepth 20000 in
theorem ggX7_decodeFour_X7_checkRange : GoodIn wsX7_decodeFour wsX7_checkRange := goodIn_ca (goodIn_r _ [27, 23, 24] (by decide +kernel) (by decide +kernel)) (goodIn_sub (fun _ h => List.mem_cons_of_mem _ (List.mem_append_right _ h)) (by decide +kernel))
set_option maxRecDepth 20000 in
theorem gX7_decodeFour_X7_checkRange : GoodIn wsX7_decodeFour (va_wsS RX7 58 yX7_checkRange wsX7_checkRange) := goodIn_app (goodIn_of _ (by decide +kernel)) ggX7_decodeFour_X7_checkRange
set_option maxRecDepth 20000 in
theorem ggX7_decodeFour_X2_init : GoodIn wsX7_decodeFour wsX2_init := goodIn_r _ [30, 31, 32, 33, 34, 91, 92, 93, 94] (by decide +kernel) (by decide +kernel)
set_option maxRecDepth 20000 in
theorem gX7_decodeFour_X2_init : GoodIn wsX7_decodeFour (wsX2_init) := ggX7_decodeFour_X2_init
set_option maxRecDepth 20000 in
theorem ggX7_decodeFour_X0_risesAt : GoodIn wsX7_decodeFour wsX0_risesAt := goodIn_r _ [39, 40, 41, 42, 38, 43, 44, 45, 46, 47, 48, 49, 95, 96] (by decide +kernel) (by decide +kernel)
set_option maxRecDepth 20000 in
theorem gX7_decodeFour_X0_risesAt : GoodIn wsX7_decodeFour (wsV RX7 213 RX0 yX0_risesAt wsX0_risesAt) := goodIn_app (goodIn_of _ (by decide +kernel)) ggX7_decodeFour_X0_risesAt
set_option maxRecDepth 20000 in
theorem ggX7_decodeFour_X2_takeSelectRise : GoodIn wsX7_decodeFour wsX2_takeSelectRise := goodIn_r _ [53, 54, 34, 55, 56, 57, 58, 59, 60, 61, 62, 63, 64, 65, 66, 67, 91, 92, 93, 94, 85, 86, 87, 88, 89, 90] (by decide +kernel) (by decide +kernel)
set_option maxRecDepth 20000 in
theorem gX7_decodeFour_X2_takeSelectRise : GoodIn wsX7_decodeFour (wsV RX7 232 RX2 yX2_takeSelectRise wsX2_takeSelectRise) := goodIn_app (goodIn_of _ (by decide +kernel)) ggX7_decodeFour_X2_takeSelectRise
set_option maxRecDepth 20000 in
theorem ggX7_decodeFour_X0_isHighAt : GoodIn wsX7_decodeFour wsX0_isHighAt := goodIn_r _ [43, 44, 45, 46, 47, 38, 48, 49, 95, 96] (by decide +kernel) (by decide +kernel)
set_option maxRecDepth 20000 in
theorem gX7_decodeFour_X0_isHighAt : GoodIn wsX7_decodeFour (wsV RX7 216 RX0 yX0_isHighAt wsX0_isHighAt) := goodIn_app (goodIn_of _ (by decide +kernel)) ggX7_decodeFour_X0_isHighAt
set_option maxRecDepth 20000 in
theorem ggX7_decodeFour_X0_fallsAt : GoodIn wsX7_decodeFour wsX0_fallsAt := goodIn_r _ [72, 40, 41, 42, 38, 43, 44, 45, 46, 47, 48, 49, 95, 96] (by decide +kernel) (by decide +kernel)
set_option maxRecDepth 20000 in
theorem gX7_decodeFour_X0_fallsAt : GoodIn wsX7_decodeFour (wsV RX7 201 RX0 yX0_fallsAt wsX0_fallsAt) := goodIn_app (goodIn_of _ (by decide +kernel)) ggX7_decodeFour_X0_fallsAt
set_option maxRecDepth 20000 in
theorem ggX7_decodeFour_X2_takeBit : GoodIn wsX7_decodeFour wsX2_takeBit := goodIn_r _ [76, 54, 55, 56, 34, 57, 58, 59, 60, 61, 62, 63, 64, 65, 66, 67, 91, 92, 93, 94, 85, 86, 87, 88, 89, 90] (by decide +kernel) (by decide +kernel)
set_option maxRecDepth 20000 in
theorem gX7_decodeFour_X2_takeBit : GoodIn wsX7_decodeFour (wsV RX7 235 RX2 yX2_takeBit wsX2_takeBit) := goodIn_app (goodIn_of _ (by decide +kernel)) ggX7_decodeFour_X2_takeBit
set_option maxRecDepth 20000 in
theorem ggX7_kind_X7_checkNote : GoodIn wsX7_kind wsX7_checkNote := goodIn_ca (goodIn_r _ [7, 8, 9, 1, 10, 11, 12, 13, 14, 15, 16, 17, 18, 19, 20, 21, 22, 23, 24] (by decide +kernel) (by decide +kernel)) (goodIn_sub (fun _ h => List.mem_cons_of_mem _ (List.mem_append_right _ h)) (by decide +kernel))
set_option maxRecDepth 20000 in
theorem gX7_kind_X7_checkNote : GoodIn wsX7_kind (wsV RX7 236 RX7 yX7_checkNote wsX7_checkNote) := goodIn_app (goodIn_of _ (by decide +kernel)) ggX7_kind_X7_checkNote
set_option maxRecDepth 20000 in
theorem ggX7_begin_X7_checkNote : GoodIn wsX7_begin wsX7_checkNote := goodIn_ca (goodIn_r _ [7, 8, 9, 1, 10, 11, 12, 13, 14, 15, 16, 17, 18, 19, 20, 21, 22, 23, 24] (by decide +kernel) (by decide +kernel)) (goodIn_sub (fun _ h => List.mem_cons_of_mem _ (List.mem_append_right _ h)) (by decide +kernel))
set_option maxRecDepth 20000 in
theorem gX7_begin_X7_checkNote : GoodIn wsX7_begin (wsV RX7 236 RX7 yX7_checkNote wsX7_checkNote) := goodIn_app (goodIn_of _ (by decide +kernel)) ggX7_begin_X7_checkNote
set_option maxRecDepth 20000 in
theorem ggX7_end_X7_checkNote : GoodIn wsX7_end wsX7_checkNote := goodIn_ca (goodIn_r _ [7, 8, 9, 1, 10, 11, 12, 13, 14, 15, 16, 17, 18, 19, 20, 21, 22, 23, 24] (by decide +kernel) (by decide +kernel)) (goodIn_sub (fun _ h => List.mem_cons_of_mem _ (List.mem_append_right _ h)) (by decide +kernel))
set_option maxRecDepth 20000 in
theorem gX7_end_X7_checkNote : GoodIn wsX7_end (wsV RX7 236 RX7 yX7_checkNote wsX7_checkNote) := goodIn_app (goodIn_of _ (by decide +kernel)) ggX7_end_X7_checkNote
set_option maxRecDepth 20000 in
theorem ggX7_value_X7_checkNote : GoodIn wsX7_value wsX7_checkNote := goodIn_ca (goodIn_r _ [7, 8, 9, 1, 10, 11, 12, 13, 14, 15, 16, 17, 18, 19, 20, 21, 22, 23, 24] (by decide +kernel) (by decide +kernel)) (goodIn_sub (fun _ h => List.mem_cons_of_mem _ (List.mem_append_right _ h)) (by decide +kernel))
set_option maxRecDepth 20000 in
theorem gX7_value_X7_checkNote : GoodIn wsX7_value (wsV RX7 236 RX7 yX7_checkNote wsX7_checkNote) := goodIn_app (goodIn_of _ (by decide +kernel)) ggX7_value_X7_checkNote
set_option maxRecDepth 20000 in
theorem ggX7_fault_X7_checkNote : GoodIn wsX7_fault wsX7_checkNote := goodIn_ca (goodIn_r _ [7, 8, 9, 1, 10, 11, 12, 13, 14, 15, 16, 17, 18, 19, 20, 21, 22, 23, 24] (by decide +kernel) (by decide +kernel)) (goodIn_sub (fun _ h => List.mem_cons_of_mem _ (List.mem_append_right _ h)) (by decide +kernel))
set_option maxRecDepth 20000 in
theorem gX7_fault_X7_checkNote : GoodIn wsX7_fault (wsV RX7 236 RX7 yX7_checkNote wsX7_checkNote) := goodIn_app (goodIn_of _ (by decide +kernel)) ggX7_fault_X7_checkNote
set_option maxRecDepth 20000 in
theorem ggX7_rate_X7_shortestRunOf : GoodIn wsX7_rate wsX7_shortestRunOf := goodIn_ca (goodIn_ca (goodIn_r _ [5, 6, 7, 8, 4, 9, 10, 11, 12, 13, 14, 15, 16, 17, 18, 19, 20, 21, 22, 23, 24, 25, 26, 27, 28, 29, 30, 31, 32, 33, 34, 35, 36, 37, 38, 39, 40, 41, 42, 43, 44, 45, 46, 47, 48] (by decide +kernel) (by decide +kernel)) (goodIn_sub (fun _ h => List.mem_cons_of_mem _ (List.mem_append_left _ (List.mem_append_right _ h))) (by decide +kernel))) (goodIn_sub (fun _ h => List.mem_cons_of_mem _ (List.mem_append_right _ h)) (by decide +kernel))
set_option maxRecDepth 20000 in
theorem gX7_rate_X7_shortestRunOf : GoodIn wsX7_rate (wsV RX7 172 RX7 yX7_shortestRunOf wsX7_shortestRunOf) := goodIn_app (goodIn_of _ (by decide +kernel)) ggX7_rate_X7_shortestRunOf
set_option maxRecDepth 20000 in
theorem ggX7_register_X7_checkRange : GoodIn wsX7_register wsX7_checkRange := goodIn_ca (goodIn_r _ [5, 6, 7] (by decide +kernel) (by decide +kernel)) (goodIn_sub (fun _ h => List.mem_cons_of_mem _ (List.mem_append_right _ h)) (by decide +kernel))
set_option maxRecDepth 20000 in
theorem gX7_register_X7_checkRange : GoodIn wsX7_register (va_wsS RX7 58 yX7_checkRange wsX7_checkRange) := goodIn_app (goodIn_of _ (by decide +kernel)) ggX7_register_X7_checkRange
set_option maxRecDepth 20000 in
theorem ggX7_register_X1_read : GoodIn wsX7_register wsX1_read := goodIn_r _ [12, 13, 22] (by decide +kernel) (by decide +kernel)
set_option maxRecDepth 20000 in
theorem gX7_register_X1_read : GoodIn wsX7_register (wsV RX7 256 RX1 yX1_read wsX1_read) := goodIn_app (goodIn_of _ (by decide +kernel)) ggX7_register_X1_read
set_option maxRecDepth 20000 in
theorem ggX7_follows_X7_checkRange : GoodIn wsX7_follows wsX7_checkRange := goodIn_ca (goodIn_r _ [5, 6, 7] (by decide +kernel) (by decide +kernel)) (goodIn_sub (fun _ h => List.mem_cons_of_mem _ (List.mem_append_right _ h)) (by decide +kernel))
set_option maxRecDepth 20000 in
theorem gX7_follows_X7_checkRange : GoodIn wsX7_follows (va_wsS RX7 58 yX7_checkRange wsX7_checkRange) := goodIn_app (goodIn_of _ (by decide +kernel)) ggX7_follows_X7_checkRange
set_option maxRecDepth 20000 in
theorem ggX7_follows_X3_pairCount : GoodIn wsX7_follows wsX3_pairCount := goodIn_r _ [12, 13, 14, 15, 24, 25, 26, 27, 28, 29] (by decide +kernel) (by decide +kernel)
set_option maxRecDepth 20000 in
theorem gX7_follows_X3_pairCount : GoodIn wsX7_follows (wsV RX7 259 RX3 yX3_pairCount wsX3_pairCount) := goodIn_app (goodIn_of _ (by decide +kernel)) ggX7_follows_X3_pairCount
set_option maxRecDepth 20000 in
theorem ggX7_alike_X7_checkRange : GoodIn wsX7_alike wsX7_checkRange := goodIn_ca (goodIn_r _ [4, 5, 6] (by decide +kernel) (by decide +kernel)) (goodIn_sub (fun _ h => List.mem_cons_of_mem _ (List.mem_append_right _ h)) (by decide +kernel))
set_option maxRecDepth 20000 in
theorem gX7_alike_X7_checkRange : GoodIn wsX7_alike (va_wsS RX7 58 yX7_checkRange wsX7_checkRange) := goodIn_app (goodIn_of _ (by decide +kernel)) ggX7_alike_X7_checkRange
set_option maxRecDepth 20000 in
theorem ggX7_alike_X7_alikeCount : GoodIn wsX7_alike wsX7_alikeCount := goodIn_r _ [10, 11, 12, 13, 14, 15, 16, 17, 18, 19, 20, 21, 22, 23, 24, 25, 26, 27, 28, 29, 30, 31, 32, 33, 34] (by decide +kernel) (by decide +kernel)
set_option maxRecDepth 20000 in
theorem gX7_alike_X7_alikeCount : GoodIn wsX7_alike (wsV RX7 262 RX7 yX7_alikeCount wsX7_alikeCount) := goodIn_app (goodIn_of _ (by decide +kernel)) ggX7_alike_X7_alikeCount
set_option maxRecDepth 20000 in
theorem ggX7_differs_X7_checkRange : GoodIn wsX7_differs wsX7_checkRange := goodIn_ca (goodIn_r _ [4, 5, 6] (by decide +kernel) (by decide +kernel)) (goodIn_sub (fun _ h => List.mem_cons_of_mem _ (List.mem_append_left _ (List.mem_append_right _ h))) (by decide +kernel))
set_option maxRecDepth 20000 in
theorem gX7_differs_X7_checkRange : GoodIn wsX7_differs (va_wsS RX7 58 yX7_checkRange wsX7_checkRange) := goodIn_app (goodIn_of _ (by decide +kernel)) ggX7_differs_X7_checkRange
set_option maxRecDepth 20000 in
theorem ggX7_differs_X7_firstUnlike : GoodIn wsX7_differs wsX7_firstUnlike := goodIn_r _ [10, 11, 12, 13, 14, 15, 16, 17, 18, 19, 20, 21, 22, 23, 24, 30, 31, 32, 33, 34, 35, 36, 37, 38, 39] (by decide +kernel) (by decide +kernel)
set_option maxRecDepth 20000 in
theorem gX7_differs_X7_firstUnlike : GoodIn wsX7_differs (wsV RX7 265 RX7 yX7_firstUnlike wsX7_firstUnlike) := goodIn_app (goodIn_of _ (by decide +kernel)) ggX7_differs_X7_firstUnlike
set_option maxRecDepth 20000 in
theorem ggX7_differs_X7_checkThere : GoodIn wsX7_differs wsX7_checkThere := goodIn_ca (goodIn_r _ [27, 28, 29] (by decide +kernel) (by decide +kernel)) (goodIn_sub (fun _ h => List.mem_cons_of_mem _ (List.mem_append_right _ h)) (by decide +kernel))
set_option maxRecDepth 20000 in
theorem gX7_differs_X7_checkThere : GoodIn wsX7_differs (va_wsS RX7 159 yX7_checkThere wsX7_checkThere) := goodIn_app (goodIn_of _ (by decide +kernel)) ggX7_differs_X7_checkThere
set_option maxRecDepth 20000 in
theorem ggX7_best_X7_checkRange : GoodIn wsX7_best wsX7_checkRange := goodIn_ca (goodIn_r _ [6, 7, 8] (by decide +kernel) (by decide +kernel)) (goodIn_sub (fun _ h => List.mem_cons_of_mem _ (List.mem_append_left _ (List.mem_append_right _ h))) (by decide +kernel))
set_option maxRecDepth 20000 in
theorem gX7_best_X7_checkRange : GoodIn wsX7_best (va_wsS RX7 58 yX7_checkRange wsX7_checkRange) := goodIn_app (goodIn_of _ (by decide +kernel)) ggX7_best_X7_checkRange
set_option maxRecDepth 20000 in
theorem ggX7_best_X7_checkUse : GoodIn wsX7_best wsX7_checkUse := goodIn_ca (goodIn_r _ [11, 12, 13] (by decide +kernel) (by decide +kernel)) (goodIn_sub (fun _ h => List.mem_cons_of_mem _ (List.mem_append_right _ h)) (by decide +kernel))
set_option maxRecDepth 20000 in
theorem gX7_best_X7_checkUse : GoodIn wsX7_best (va_wsS RX7 193 yX7_checkUse wsX7_checkUse) := goodIn_app (goodIn_of _ (by decide +kernel)) ggX7_best_X7_checkUse
set_option maxRecDepth 20000 in
theorem ggX7_best_X7_alikeCount : GoodIn wsX7_best wsX7_alikeCount := goodIn_r _ [17, 1, 2, 18, 19, 20, 21, 22, 23, 24, 25, 26, 27, 28, 29, 30, 31, 32, 33, 34, 35, 36, 37, 38, 39] (by decide +kernel) (by decide +kernel)
set_option maxRecDepth 20000 in
theorem gX7_best_X7_alikeCount : GoodIn wsX7_best (wsV RX7 262 RX7 yX7_alikeCount wsX7_alikeCount) := goodIn_app (goodIn_of _ (by decide +kernel)) ggX7_best_X7_alikeCount
set_option maxRecDepth 20000 in
theorem ggX7_checksum_X0_levelsAt : GoodIn wsX7_checksum wsX0_levelsAt := goodIn_r _ [13, 14, 15, 16, 17, 12, 18, 19, 28, 29] (by decide +kernel) (by decide +kernel)
set_option maxRecDepth 20000 in
theorem gX7_checksum_X0_levelsAt : GoodIn wsX7_checksum (wsV RX7 162 RX0 yX0_levelsAt wsX0_levelsAt) := goodIn_app (goodIn_of _ (by decide +kernel)) ggX7_checksum_X0_levelsAt
set_option maxRecDepth 20000 in
theorem ggX7_highShare_X7_checkCapture : GoodIn wsX7_highShare wsX7_checkCapture := goodIn_ca (goodIn_r _ [6, 7, 8] (by decide +kernel) (by decide +kernel)) (goodIn_sub (fun _ h => List.mem_cons_of_mem _ (List.mem_append_left _ (List.mem_append_right _ h))) (by decide +kernel))
set_option maxRecDepth 20000 in
theorem gX7_highShare_X7_checkCapture : GoodIn wsX7_highShare (va_wsS RX7 141 yX7_checkCapture wsX7_checkCapture) := goodIn_app (goodIn_of _ (by decide +kernel)) ggX7_highShare_X7_checkCapture
set_option maxRecDepth 20000 in
theorem ggX7_highShare_X7_checkWire : GoodIn wsX7_highShare wsX7_checkWire := goodIn_ca (goodIn_r _ [11, 7, 8] (by decide +kernel) (by decide +kernel)) (goodIn_sub (fun _ h => List.mem_cons_of_mem _ (List.mem_append_left _ (List.mem_append_right _ h))) (by decide +kernel))
set_option maxRecDepth 20000 in
theorem gX7_highShare_X7_checkWire : GoodIn wsX7_highShare (va_wsS RX7 51 yX7_checkWire wsX7_checkWire) := goodIn_app (goodIn_of _ (by decide +kernel)) ggX7_highShare_X7_checkWire
set_option maxRecDepth 20000 in
theorem ggX7_highShare_X7_checkThere : GoodIn wsX7_highShare wsX7_checkThere := goodIn_ca (goodIn_r _ [14, 15, 16] (by decide +kernel) (by decide +kernel)) (goodIn_sub (fun _ h => List.mem_cons_of_mem _ (List.mem_append_right _ h)) (by decide +kernel))
set_option maxRecDepth 20000 in
theorem gX7_highShare_X7_checkThere : GoodIn wsX7_highShare (va_wsS RX7 159 yX7_checkThere wsX7_checkThere) := goodIn_app (goodIn_of _ (by decide +kernel)) ggX7_highShare_X7_checkThere
set_option maxRecDepth 20000 in
theorem ggX7_highShare_X0_highCount : GoodIn wsX7_highShare wsX0_highCount := goodIn_r _ [21, 22, 23, 24, 25, 20, 26, 27, 28, 29, 30, 31, 40, 41] (by decide +kernel) (by decide +kernel)
set_option maxRecDepth 20000 in
theorem gX7_highShare_X0_highCount : GoodIn wsX7_highShare (wsV RX7 272 RX0 yX0_highCount wsX0_highCount) := goodIn_app (goodIn_of _ (by decide +kernel)) ggX7_highShare_X0_highCount
set_option maxRecDepth 20000 in
theorem ggX7_meanRun_X7_checkCapture : GoodIn wsX7_meanRun wsX7_checkCapture := goodIn_ca (goodIn_r _ [6, 7, 8] (by decide +kernel) (by decide +kernel)) (goodIn_sub (fun _ h => List.mem_cons_of_mem _ (List.mem_append_left _ (List.mem_append_right _ h))) (by decide +kernel))
set_option maxRecDepth 20000 in
theorem gX7_meanRun_X7_checkCapture : GoodIn wsX7_meanRun (va_wsS RX7 141 yX7_checkCapture wsX7_checkCapture) := goodIn_app (goodIn_of _ (by decide +kernel)) ggX7_meanRun_X7_checkCapture
set_option maxRecDepth 20000 in
theorem ggX7_meanRun_X7_checkWire : GoodIn wsX7_meanRun wsX7_checkWire := goodIn_ca (goodIn_r _ [11, 7, 8] (by decide +kernel) (by decide +kernel)) (goodIn_sub (fun _ h => List.mem_cons_of_mem _ (List.mem_append_left _ (List.mem_append_right _ h))) (by decide +kernel))
set_option maxRecDepth 20000 in
theorem gX7_meanRun_X7_checkWire : GoodIn wsX7_meanRun (va_wsS RX7 51 yX7_checkWire wsX7_checkWire) := goodIn_app (goodIn_of _ (by decide +kernel)) ggX7_meanRun_X7_checkWire
set_option maxRecDepth 20000 in
theorem ggX7_meanRun_X0_runCount : GoodIn wsX7_meanRun wsX0_runCount := goodIn_r _ [16, 17, 18, 19, 20, 15, 21, 22, 23, 24, 25, 26, 27, 28, 29, 30, 44, 45] (by decide +kernel) (by decide +kernel)
set_option maxRecDepth 20000 in
theorem gX7_meanRun_X0_runCount : GoodIn wsX7_meanRun (wsV RX7 166 RX0 yX0_runCount wsX0_runCount) := goodIn_app (goodIn_of _ (by decide +kernel)) ggX7_meanRun_X0_runCount
set_option maxRecDepth 20000 in
theorem ggX7_meanRun_X7_checkThere : GoodIn wsX7_meanRun wsX7_checkThere := goodIn_ca (goodIn_r _ [33, 34, 35] (by decide +kernel) (by decide +kernel)) (goodIn_sub (fun _ h => List.mem_cons_of_mem _ (List.mem_append_right _ h)) (by decide +kernel))
set_option maxRecDepth 20000 in
theorem gX7_meanRun_X7_checkThere : GoodIn wsX7_meanRun (va_wsS RX7 159 yX7_checkThere wsX7_checkThere) := goodIn_app (goodIn_of _ (by decide +kernel)) ggX7_meanRun_X7_checkThere
set_option maxRecDepth 20000 in
theorem ggX7_isSound_X0_areRunsWhole : GoodIn wsX7_isSound wsX0_areRunsWhole := goodIn_r _ [7, 8, 9, 10, 11, 6, 12, 13, 14, 15, 16, 17, 18, 19, 20, 21, 54, 55] (by decide +kernel) (by decide +kernel)
set_option maxRecDepth 20000 in
theorem gX7_isSound_X0_areRunsWhole : GoodIn wsX7_isSound (wsV RX7 275 RX0 yX0_areRunsWhole wsX0_areRunsWhole) := goodIn_app (goodIn_of _ (by decide +kernel)) ggX7_isSound_X0_areRunsWhole
set_option maxRecDepth 20000 in
theorem ggX7_isSound_X0_areChangesSeen : GoodIn wsX7_isSound wsX0_areChangesSeen := goodIn_r _ [25, 26, 27, 28, 6, 29, 8, 30, 31, 32, 33, 34, 35, 36, 37, 9, 10, 11, 12, 13, 14, 15, 16, 17, 18, 19, 20, 21, 54, 55] (by decide +kernel) (by decide +kernel)
set_option maxRecDepth 20000 in
theorem gX7_isSound_X0_areChangesSeen : GoodIn wsX7_isSound (wsV RX7 278 RX0 yX0_areChangesSeen wsX0_areChangesSeen) := goodIn_app (goodIn_of _ (by decide +kernel)) ggX7_isSound_X0_areChangesSeen
set_option maxRecDepth 20000 in
theorem ggX7_isSound_X3_areInOrder : GoodIn wsX7_isSound wsX3_areInOrder := goodIn_r _ [42, 43, 44, 45, 56, 57, 58, 59, 60, 61] (by decide +kernel) (by decide +kernel)
set_option maxRecDepth 20000 in
theorem gX7_isSound_X3_areInOrder : GoodIn wsX7_isSound (wsV RX7 281 RX3 yX3_areInOrder wsX3_areInOrder) := goodIn_app (goodIn_of _ (by decide +kernel)) ggX7_isSound_X3_areInOrder
set_option maxRecDepth 20000 in
theorem ggX7_checkThreeApart_X7_checkApart : GoodIn wsX7_checkThreeApart wsX7_checkApart := goodIn_ca (goodIn_r _ [4, 5, 6] (by decide +kernel) (by decide +kernel)) (goodIn_sub (fun _ h => List.mem_cons_of_mem _ (List.mem_append_right _ h)) (by decide +kernel))
set_option maxRecDepth 20000 in
theorem gX7_checkThreeApart_X7_checkApart : GoodIn wsX7_checkThreeApart (va_wsS RX7 114 yX7_checkApart wsX7_checkApart) := goodIn_app (goodIn_of _ (by decide +kernel)) ggX7_checkThreeApart_X7_checkApart
set_option maxRecDepth 20000 in
theorem ggX7_parityOf_J6_bitCount_0f7a4 : GoodIn wsX7_parityOf wsJ6_bitCount_0f7a4 := goodIn_r _ [4, 5, 6, 7] (by decide +kernel) (by decide +kernel)
set_option maxRecDepth 20000 in
theorem gX7_parityOf_J6_bitCount_0f7a4 : GoodIn wsX7_parityOf (va_wsS RX7 323 yJ6_bitCount_0f7a4 wsJ6_bitCount_0f7a4) := goodIn_app (goodIn_of _ (by decide +kernel)) ggX7_parityOf_J6_bitCount_0f7a4
set_option maxRecDepth 20000 in
theorem ggX7_serialWord_X7_parityOf : GoodIn wsX7_serialWord wsX7_parityOf := goodIn_r _ [4, 5, 6, 7, 8, 9, 10, 11] (by decide +kernel) (by decide +kernel)
set_option maxRecDepth 20000 in
theorem gX7_serialWord_X7_parityOf : GoodIn wsX7_serialWord (va_wsS RX7 328 yX7_parityOf wsX7_parityOf) := goodIn_app (goodIn_of _ (by decide +kernel)) ggX7_serialWord_X7_parityOf
set_option maxRecDepth 20000 in
theorem ggX7_serialWord_X7_serialBits : GoodIn wsX7_serialWord wsX7_serialBits := goodIn_r _ [14] (by decide +kernel) (by decide +kernel)
set_option maxRecDepth 20000 in
theorem gX7_serialWord_X7_serialBits : GoodIn wsX7_serialWord (va_wsS RX7 94 yX7_serialBits wsX7_serialBits) := goodIn_app (goodIn_of _ (by decide +kernel)) ggX7_serialWord_X7_serialBits
set_option maxRecDepth 20000 in
theorem ggX7_planTwoWires_X6_beginSending : GoodIn wsX7_planTwoWires wsX6_beginSending := goodIn_r _ [5, 6, 7, 26, 27, 28, 29, 30, 31] (by decide +kernel) (by decide +kernel)
set_option maxRecDepth 20000 in
theorem gX7_planTwoWires_X6_beginSending : GoodIn wsX7_planTwoWires (wsV RX7 62 RX6 yX6_beginSending wsX6_beginSending) := goodIn_app (goodIn_of _ (by decide +kernel)) ggX7_planTwoWires_X6_beginSending
set_option maxRecDepth 20000 in
theorem ggX7_planTwoWires_X6_send : GoodIn wsX7_planTwoWires wsX6_send := goodIn_r _ [11, 6, 12, 13, 14, 4, 15, 7, 16, 26, 27, 28, 29, 30, 31] (by decide +kernel) (by decide +kernel)
set_option maxRecDepth 20000 in
theorem gX7_planTwoWires_X6_send : GoodIn wsX7_planTwoWires (wsV RX7 110 RX6 yX6_send wsX6_send) := goodIn_app (goodIn_of _ (by decide +kernel)) ggX7_planTwoWires_X6_send
set_option maxRecDepth 20000 in
theorem ggX7_planTwoWires_X7_tickBehind : GoodIn wsX7_planTwoWires wsX7_tickBehind := goodIn_r _ [21, 22, 32, 33, 34, 35, 36, 37, 38, 39] (by decide +kernel) (by decide +kernel)
set_option maxRecDepth 20000 in
theorem gX7_planTwoWires_X7_tickBehind : GoodIn wsX7_planTwoWires (wsV RX7 106 RX7 yX7_tickBehind wsX7_tickBehind) := goodIn_app (goodIn_of _ (by decide +kernel)) ggX7_planTwoWires_X7_tickBehind
set_option maxRecDepth 20000 in
theorem ggX7_planTwoWires_X7_hasBit : GoodIn wsX7_planTwoWires wsX7_hasBit := goodIn_r _ [25] (by decide +kernel) (by decide +kernel)
set_option maxRecDepth 20000 in
theorem gX7_planTwoWires_X7_hasBit : GoodIn wsX7_planTwoWires (va_wsS RX7 102 yX7_hasBit wsX7_hasBit) := goodIn_app (goodIn_of _ (by decide +kernel)) ggX7_planTwoWires_X7_hasBit
set_option maxRecDepth 20000 in
theorem ggX7_planSelect_X6_beginSending : GoodIn wsX7_planSelect wsX6_beginSending := goodIn_r _ [5, 6, 7, 17, 18, 19, 20, 21, 22] (by decide +kernel) (by decide +kernel)
set_option maxRecDepth 20000 in
theorem gX7_planSelect_X6_beginSending : GoodIn wsX7_planSelect (wsV RX7 62 RX6 yX6_beginSending wsX6_beginSending) := goodIn_app (goodIn_of _ (by decide +kernel)) ggX7_planSelect_X6_beginSending
set_option maxRecDepth 20000 in
theorem ggX7_planSelect_X6_send : GoodIn wsX7_planSelect wsX6_send := goodIn_r _ [11, 6, 12, 13, 14, 4, 15, 7, 16, 17, 18, 19, 20, 21, 22] (by decide +kernel) (by decide +kernel)
set_option maxRecDepth 20000 in
theorem gX7_planSelect_X6_send : GoodIn wsX7_planSelect (wsV RX7 110 RX6 yX6_send wsX6_send) := goodIn_app (goodIn_of _ (by decide +kernel)) ggX7_planSelect_X6_send
set_option maxRecDepth 20000 in
theorem ggX7_planFourClock_X6_beginSending : GoodIn wsX7_planFourClock wsX6_beginSending := goodIn_r _ [5, 6, 7, 23, 24, 25, 26, 27, 28] (by decide +kernel) (by decide +kernel)
set_option maxRecDepth 20000 in
theorem gX7_planFourClock_X6_beginSending : GoodIn wsX7_planFourClock (wsV RX7 62 RX6 yX6_beginSending wsX6_beginSending) := goodIn_app (goodIn_of _ (by decide +kernel)) ggX7_planFourClock_X6_beginSending
set_option maxRecDepth 20000 in
theorem ggX7_planFourClock_X7_tickBehind : GoodIn wsX7_planFourClock wsX7_tickBehind := goodIn_r _ [12, 13, 29, 30, 31, 32, 33, 34, 35, 36] (by decide +kernel) (by decide +kernel)
set_option maxRecDepth 20000 in
theorem gX7_planFourClock_X7_tickBehind : GoodIn wsX7_planFourClock (wsV RX7 106 RX7 yX7_tickBehind wsX7_tickBehind) := goodIn_app (goodIn_of _ (by decide +kernel)) ggX7_planFourClock_X7_tickBehind
set_option maxRecDepth 20000 in
theorem ggX7_planFourClock_X6_send : GoodIn wsX7_planFourClock wsX6_send := goodIn_r _ [17, 6, 18, 19, 20, 4, 21, 7, 22, 23, 24, 25, 26, 27, 28] (by decide +kernel) (by decide +kernel)
set_option maxRecDepth 20000 in
theorem gX7_planFourClock_X6_send : GoodIn wsX7_planFourClock (wsV RX7 110 RX6 yX6_send wsX6_send) := goodIn_app (goodIn_of _ (by decide +kernel)) ggX7_planFourClock_X6_send
set_option maxRecDepth 20000 in
theorem ggX7_planFourData_X6_beginSending : GoodIn wsX7_planFourData wsX6_beginSending := goodIn_r _ [5, 6, 7, 26, 27, 28, 29, 30, 31] (by decide +kernel) (by decide +kernel)
set_option maxRecDepth 20000 in
theorem gX7_planFourData_X6_beginSending : GoodIn wsX7_planFourData (wsV RX7 62 RX6 yX6_beginSending wsX6_beginSending) := goodIn_app (goodIn_of _ (by decide +kernel)) ggX7_planFourData_X6_beginSending
set_option maxRecDepth 20000 in
theorem ggX7_planFourData_X7_hasBit : GoodIn wsX7_planFourData wsX7_hasBit := goodIn_r _ [11] (by decide +kernel) (by decide +kernel)
set_option maxRecDepth 20000 in
theorem gX7_planFourData_X7_hasBit : GoodIn wsX7_planFourData (va_wsS RX7 102 yX7_hasBit wsX7_hasBit) := goodIn_app (goodIn_of _ (by decide +kernel)) ggX7_planFourData_X7_hasBit
set_option maxRecDepth 20000 in
theorem ggX7_planFourData_X7_tickBehind : GoodIn wsX7_planFourData wsX7_tickBehind := goodIn_r _ [15, 16, 32, 33, 34, 35, 36, 37, 38, 39] (by decide +kernel) (by decide +kernel)
set_option maxRecDepth 20000 in
theorem gX7_planFourData_X7_tickBehind : GoodIn wsX7_planFourData (wsV RX7 106 RX7 yX7_tickBehind wsX7_tickBehind) := goodIn_app (goodIn_of _ (by decide +kernel)) ggX7_planFourData_X7_tickBehind
set_option maxRecDepth 20000 in
theorem ggX7_planFourData_X6_send : GoodIn wsX7_planFourData wsX6_send := goodIn_r _ [20, 6, 21, 22, 23, 4, 24, 7, 25, 26, 27, 28, 29, 30, 31] (by decide +kernel) (by decide +kernel)
set_option maxRecDepth 20000 in
theorem gX7_planFourData_X6_send : GoodIn wsX7_planFourData (wsV RX7 110 RX6 yX6_send wsX6_send) := goodIn_app (goodIn_of _ (by decide +kernel)) ggX7_planFourData_X6_send
set_option maxRecDepth 20000 in
theorem ggX7_shortestRunOf_X7_checkCapture : GoodIn wsX7_shortestRunOf wsX7_checkCapture := goodIn_ca (goodIn_r _ [5, 6, 7] (by decide +kernel) (by decide +kernel)) (goodIn_sub (fun _ h => List.mem_cons_of_mem _ (List.mem_append_left _ (List.mem_append_right _ h))) (by decide +kernel))
set_option maxRecDepth 20000 in
theorem gX7_shortestRunOf_X7_checkCapture : GoodIn wsX7_shortestRunOf (va_wsS RX7 141 yX7_checkCapture wsX7_checkCapture) := goodIn_app (goodIn_of _ (by decide +kernel)) ggX7_shortestRunOf_X7_checkCapture
set_option maxRecDepth 20000 in
theorem ggX7_shortestRunOf_X7_checkWire : GoodIn wsX7_shortestRunOf wsX7_checkWire := goodIn_ca (goodIn_r _ [10, 6, 7] (by decide +kernel) (by decide +kernel)) (goodIn_sub (fun _ h => List.mem_cons_of_mem _ (List.mem_append_left _ (List.mem_append_right _ h))) (by decide +kernel))
set_option maxRecDepth 20000 in
theorem gX7_shortestRunOf_X7_checkWire : GoodIn wsX7_shortestRunOf (va_wsS RX7 51 yX7_checkWire wsX7_checkWire) := goodIn_app (goodIn_of _ (by decide +kernel)) ggX7_shortestRunOf_X7_checkWire
set_option maxRecDepth 20000 in
theorem ggX7_shortestRunOf_X0_shortestInner : GoodIn wsX7_shortestRunOf wsX0_shortestInner := goodIn_r _ [15, 16, 17, 18, 19, 14, 20, 21, 22, 23, 24, 25, 26, 27, 28, 29, 43, 44] (by decide +kernel) (by decide +kernel)
set_option maxRecDepth 20000 in
theorem gX7_shortestRunOf_X0_shortestInner : GoodIn wsX7_shortestRunOf (wsV RX7 331 RX0 yX0_shortestInner wsX0_shortestInner) := goodIn_app (goodIn_of _ (by decide +kernel)) ggX7_shortestRunOf_X0_shortestInner
set_option maxRecDepth 20000 in
theorem ggX7_shortestRunOf_X7_checkThere : GoodIn wsX7_shortestRunOf wsX7_checkThere := goodIn_ca (goodIn_r _ [32, 33, 34] (by decide +kernel) (by decide +kernel)) (goodIn_sub (fun _ h => List.mem_cons_of_mem _ (List.mem_append_right _ h)) (by decide +kernel))
set_option maxRecDepth 20000 in
theorem gX7_shortestRunOf_X7_checkThere : GoodIn wsX7_shortestRunOf (va_wsS RX7 159 yX7_checkThere wsX7_checkThere) := goodIn_app (goodIn_of _ (by decide +kernel)) ggX7_shortestRunOf_X7_checkThere
set_option maxRecDepth 20000 in
theorem ggX7_tellSerial_X7_serialBits : GoodIn wsX7_tellSerial wsX7_serialBits := goodIn_r _ [6] (by decide +kernel) (by decide +kernel)
set_option maxRecDepth 20000 in
theorem gX7_tellSerial_X7_serialBits : GoodIn wsX7_tellSerial (va_wsS RX7 94 yX7_serialBits wsX7_serialBits) := goodIn_app (goodIn_of _ (by decide +kernel)) ggX7_tellSerial_X7_serialBits
set_option maxRecDepth 20000 in
theorem ggX7_tellSerial_X7_middleOf : GoodIn wsX7_tellSerial wsX7_middleOf := goodIn_r _ [9] (by decide +kernel) (by decide +kernel)
set_option maxRecDepth 20000 in
theorem gX7_tellSerial_X7_middleOf : GoodIn wsX7_tellSerial (va_wsS RX7 334 yX7_middleOf wsX7_middleOf) := goodIn_app (goodIn_of _ (by decide +kernel)) ggX7_tellSerial_X7_middleOf
set_option maxRecDepth 20000 in
theorem ggX7_tellSerial_X0_isHighAt : GoodIn wsX7_tellSerial wsX0_isHighAt := goodIn_r _ [14, 15, 16, 17, 18, 13, 19, 20, 42, 43] (by decide +kernel) (by decide +kernel)
set_option maxRecDepth 20000 in
theorem gX7_tellSerial_X0_isHighAt : GoodIn wsX7_tellSerial (wsV RX7 216 RX0 yX0_isHighAt wsX0_isHighAt) := goodIn_app (goodIn_of _ (by decide +kernel)) ggX7_tellSerial_X0_isHighAt
set_option maxRecDepth 20000 in
theorem ggX7_tellSerial_X7_parityOf : GoodIn wsX7_tellSerial wsX7_parityOf := goodIn_r _ [23, 24, 25, 26, 27, 28, 29, 30] (by decide +kernel) (by decide +kernel)
set_option maxRecDepth 20000 in
theorem gX7_tellSerial_X7_parityOf : GoodIn wsX7_tellSerial (va_wsS RX7 328 yX7_parityOf wsX7_parityOf) := goodIn_app (goodIn_of _ (by decide +kernel)) ggX7_tellSerial_X7_parityOf
set_option maxRecDepth 20000 in
theorem ggX7_tellSerial_X3_tell : GoodIn wsX7_tellSerial wsX3_tell := goodIn_r _ [35, 36, 37, 38, 39, 40, 41, 52, 53, 54, 55, 56, 57] (by decide +kernel) (by decide +kernel)
set_option maxRecDepth 20000 in
theorem gX7_tellSerial_X3_tell : GoodIn wsX7_tellSerial (wsV RX7 338 RX3 yX3_tell wsX3_tell) := goodIn_app (goodIn_of _ (by decide +kernel)) ggX7_tellSerial_X3_tell
set_option maxRecDepth 20000 in
theorem ggX7_alikeCount_X0_has : GoodIn wsX7_alikeCount wsX0_has := goodIn_r _ [7, 8, 9, 23, 24] (by decide +kernel) (by decide +kernel)
set_option maxRecDepth 20000 in
theorem gX7_alikeCount_X0_has : GoodIn wsX7_alikeCount (wsV RX7 156 RX0 yX0_has wsX0_has) := goodIn_app (goodIn_of _ (by decide +kernel)) ggX7_alikeCount_X0_has
set_option maxRecDepth 20000 in
theorem ggX7_alikeCount_X0_levelsAt : GoodIn wsX7_alikeCount wsX0_levelsAt := goodIn_r _ [13, 9, 14, 4, 5, 6, 7, 8, 23, 24] (by decide +kernel) (by decide +kernel)
set_option maxRecDepth 20000 in
theorem gX7_alikeCount_X0_levelsAt : GoodIn wsX7_alikeCount (wsV RX7 162 RX0 yX0_levelsAt wsX0_levelsAt) := goodIn_app (goodIn_of _ (by decide +kernel)) ggX7_alikeCount_X0_levelsAt
set_option maxRecDepth 20000 in
theorem ggX7_firstUnlike_X0_has : GoodIn wsX7_firstUnlike wsX0_has := goodIn_r _ [7, 8, 9, 23, 24] (by decide +kernel) (by decide +kernel)
set_option maxRecDepth 20000 in
theorem gX7_firstUnlike_X0_has : GoodIn wsX7_firstUnlike (wsV RX7 156 RX0 yX0_has wsX0_has) := goodIn_app (goodIn_of _ (by decide +kernel)) ggX7_firstUnlike_X0_has
set_option maxRecDepth 20000 in
theorem ggX7_firstUnlike_X0_levelsAt : GoodIn wsX7_firstUnlike wsX0_levelsAt := goodIn_r _ [13, 9, 14, 4, 5, 6, 7, 8, 23, 24] (by decide +kernel) (by decide +kernel)
set_option maxRecDepth 20000 in
theorem gX7_firstUnlike_X0_levelsAt : GoodIn wsX7_firstUnlike (wsV RX7 162 RX0 yX0_levelsAt wsX0_levelsAt) := goodIn_app (goodIn_of _ (by decide +kernel)) ggX7_firstUnlike_X0_levelsAt
