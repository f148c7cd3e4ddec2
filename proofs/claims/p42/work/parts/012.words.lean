def owX0_init : List Cond := [.code yX0_init cX0_init 1 none, .methodLink RX0 3 objectInit, .instanceMethod objectInit, .code objectInit ⟨#[0xb1]⟩ 1 none, .arrayClass .int, .fieldLink RX0 9 "TwoReels$Route" "hops" "[I", .fieldLink RX0 15 "TwoReels$Route" "fewest" "[I", .fieldLink RX0 18 "TwoReels$Route" "chosen" "[I", .fieldLink RX0 21 "TwoReels$Route" "stops" "[I"]
def wsX0_init : List Cond := owX0_init ++ (wsX00 ++ [])
theorem gdX0_init : (wsX0_init).all goodWord = true := by decide +kernel
def owX4_setCell : List Cond := [.code yX4_setCell cX4_setCell 3 none]
def wsX4_setCell : List Cond := owX4_setCell ++ []
theorem gdX4_setCell : (wsX4_setCell).all goodWord = true := by decide +kernel
def owX0_choose : List Cond := [.code yX0_choose cX0_choose 3 none, .fieldLink RX0 32 "TwoReels$Route" "count" "I", .fieldLink RX0 18 "TwoReels$Route" "chosen" "[I", .static yX4_setCell, .initialized RX4]
def wsX0_choose : List Cond := owX0_choose ++ (wsX00 ++ (owX4_setCell ++ []))
theorem gdX0_choose : (wsX0_choose).all goodWord = true := by decide +kernel
def owX4_cell : List Cond := [.code yX4_cell cX4_cell 2 (some .int)]
def wsX4_cell : List Cond := owX4_cell ++ []
theorem gdX4_cell : (wsX4_cell).all goodWord = true := by decide +kernel
def owX4_isBetween : List Cond := [.code yX4_isBetween cX4_isBetween 3 (some .boolean)]
def wsX4_isBetween : List Cond := owX4_isBetween ++ []
theorem gdX4_isBetween : (wsX4_isBetween).all goodWord = true := by decide +kernel
def owX2_hasBlock : List Cond := [.code yX2_hasBlock cX2_hasBlock 2 (some .boolean), .fieldLink RX2 46 "TwoReels$Tape" "blockCount" "I", .static yX4_isBetween, .initialized RX4]
def wsX2_hasBlock : List Cond := owX2_hasBlock ++ (wsX20 ++ (owX4_isBetween ++ []))
theorem gdX2_hasBlock : (wsX2_hasBlock).all goodWord = true := by decide +kernel
def owX2_beginOf : List Cond := [.code yX2_beginOf cX2_beginOf 2 (some .int), .fieldLink RX2 15 "TwoReels$Tape" "begins" "[I", .static yX4_cell, .initialized RX4]
def wsX2_beginOf : List Cond := owX2_beginOf ++ (wsX20 ++ (owX4_cell ++ []))
theorem gdX2_beginOf : (wsX2_beginOf).all goodWord = true := by decide +kernel
def owX2_sizeOf : List Cond := [.code yX2_sizeOf cX2_sizeOf 2 (some .int), .fieldLink RX2 18 "TwoReels$Tape" "sizes" "[I", .static yX4_cell, .initialized RX4]
def wsX2_sizeOf : List Cond := owX2_sizeOf ++ (wsX20 ++ (owX4_cell ++ []))
theorem gdX2_sizeOf : (wsX2_sizeOf).all goodWord = true := by decide +kernel
def owX2_ruled : List Cond := [.code yX2_ruled cX2_ruled 2 (some .int), .fieldLink RX2 9 "TwoReels$Tape" "rules" "[I"]
def wsX2_ruled : List Cond := owX2_ruled ++ (wsX20 ++ [])
theorem gdX2_ruled : (wsX2_ruled).all goodWord = true := by decide +kernel
def owX4_dividedUp : List Cond := [.code yX4_dividedUp cX4_dividedUp 2 (some .int)]
def wsX4_dividedUp : List Cond := owX4_dividedUp ++ []
theorem gdX4_dividedUp : (wsX4_dividedUp).all goodWord = true := by decide +kernel
def owX2_longWith : List Cond := [.code yX2_longWith cX2_longWith 2 (some .int), .methodLink RX2 65 yX2_ruled, .instanceMethod yX2_ruled, .selects RX2 yX2_ruled yX2_ruled, .initialized RX2, .static yX4_dividedUp, .initialized RX4]
def wsX2_longWith : List Cond := owX2_longWith ++ (wsX20 ++ (owX2_ruled ++ (owX4_dividedUp ++ [])))
theorem gdX2_longWith : (wsX2_longWith).all goodWord = true := by decide +kernel
def owX2_endOf : List Cond := [.code yX2_endOf cX2_endOf 2 (some .int), .methodLink RX2 127 yX2_hasBlock, .instanceMethod yX2_hasBlock, .selects RX2 yX2_hasBlock yX2_hasBlock, .methodLink RX2 130 yX2_beginOf, .instanceMethod yX2_beginOf, .selects RX2 yX2_beginOf yX2_beginOf, .methodLink RX2 118 yX2_sizeOf, .instanceMethod yX2_sizeOf, .selects RX2 yX2_sizeOf yX2_sizeOf, .methodLink RX2 124 yX2_longWith, .instanceMethod yX2_longWith, .selects RX2 yX2_longWith yX2_longWith]
def wsX2_endOf : List Cond := owX2_endOf ++ (wsX20 ++ (owX2_hasBlock ++ (owX4_isBetween ++ (owX2_beginOf ++ (owX4_cell ++ (owX2_sizeOf ++ (owX2_longWith ++ (owX2_ruled ++ (owX4_dividedUp ++ [])))))))))
theorem gdX2_endOf : (wsX2_endOf).all goodWord = true := by decide +kernel
def owX2_playedThrough : List Cond := [.code yX2_playedThrough cX2_playedThrough 2 (some .int), .methodLink RX2 65 yX2_ruled, .instanceMethod yX2_ruled, .selects RX2 yX2_ruled yX2_ruled, .initialized RX2]
def wsX2_playedThrough : List Cond := owX2_playedThrough ++ (wsX20 ++ (owX2_ruled ++ []))
theorem gdX2_playedThrough : (wsX2_playedThrough).all goodWord = true := by decide +kernel
def owX2_played : List Cond := [.code yX2_played cX2_played 3 (some .int), .methodLink RX2 99 Lib.Math.abs.name, .static Lib.Math.abs.name, .initialized "java/lang/Math", .code Lib.Math.abs.name Lib.Math.abs.code 1 (some .int), .methodLink RX2 102 yX2_playedThrough, .instanceMethod yX2_playedThrough, .selects RX2 yX2_playedThrough yX2_playedThrough]
def wsX2_played : List Cond := owX2_played ++ (wsX20 ++ (owX2_ruled ++ (owX2_playedThrough ++ [])))
theorem gdX2_played : (wsX2_played).all goodWord = true := by decide +kernel
def owX4_lengthOfTurns : List Cond := [.code yX4_lengthOfTurns cX4_lengthOfTurns 3 (some .int)]
def wsX4_lengthOfTurns : List Cond := owX4_lengthOfTurns ++ []
theorem gdX4_lengthOfTurns : (wsX4_lengthOfTurns).all goodWord = true := by decide +kernel
def owX2_turnsOf : List Cond := [.code yX2_turnsOf cX2_turnsOf 6 (some .int), .methodLink RX2 65 yX2_ruled, .instanceMethod yX2_ruled, .selects RX2 yX2_ruled yX2_ruled, .initialized RX2, .static yX4_lengthOfTurns, .initialized RX4]
def wsX2_turnsOf : List Cond := owX2_turnsOf ++ (wsX20 ++ (owX2_ruled ++ (owX4_lengthOfTurns ++ [])))
theorem gdX2_turnsOf : (wsX2_turnsOf).all goodWord = true := by decide +kernel
def owX2_wound : List Cond := [.code yX2_wound cX2_wound 5 (some .int), .methodLink RX2 77 yX2_turnsOf, .instanceMethod yX2_turnsOf, .selects RX2 yX2_turnsOf yX2_turnsOf]
def wsX2_wound : List Cond := owX2_wound ++ (wsX20 ++ (owX2_ruled ++ (owX2_turnsOf ++ (owX4_lengthOfTurns ++ []))))
theorem gdX2_wound : (wsX2_wound).all goodWord = true := by decide +kernel
def owX2_sooner : List Cond := [.code yX2_sooner cX2_sooner 3 (some .int), .methodLink RX2 87 Lib.Math.min.name, .static Lib.Math.min.name, .code Lib.Math.min.name Lib.Math.min.code 2 (some .int), .methodLink RX2 105 yX2_played, .instanceMethod yX2_played, .selects RX2 yX2_played yX2_played, .methodLink RX2 108 yX2_wound, .instanceMethod yX2_wound, .selects RX2 yX2_wound yX2_wound]
def wsX2_sooner : List Cond := owX2_sooner ++ (wsX20 ++ (owX2_played ++ (owX2_ruled ++ (owX2_playedThrough ++ (owX2_wound ++ (owX2_turnsOf ++ (owX4_lengthOfTurns ++ [])))))))
theorem gdX2_sooner : (wsX2_sooner).all goodWord = true := by decide +kernel
def owX2_longOf : List Cond := [.code yX2_longOf cX2_longOf 2 (some .int), .methodLink RX2 118 yX2_sizeOf, .instanceMethod yX2_sizeOf, .selects RX2 yX2_sizeOf yX2_sizeOf, .methodLink RX2 124 yX2_longWith, .instanceMethod yX2_longWith, .selects RX2 yX2_longWith yX2_longWith]
def wsX2_longOf : List Cond := owX2_longOf ++ (wsX20 ++ (owX2_sizeOf ++ (owX4_cell ++ (owX2_longWith ++ (owX2_ruled ++ (owX4_dividedUp ++ []))))))
theorem gdX2_longOf : (wsX2_longOf).all goodWord = true := by decide +kernel
def owX0_measureHops : List Cond := [.code yX0_measureHops cX0_measureHops 7 none, .fieldLink RX0 32 "TwoReels$Route" "count" "I", .fieldLink RX0 51 "TwoReels$Tape" "head" "I", .fieldLink RX0 18 "TwoReels$Route" "chosen" "[I", .fieldLink RX0 9 "TwoReels$Route" "hops" "[I", .methodLink RX0 56 yX2_endOf, .instanceMethod yX2_endOf, .selects RX2 yX2_endOf yX2_endOf, .methodLink RX0 60 yX2_beginOf, .methodLink RX0 63 yX2_sooner, .instanceMethod yX2_sooner, .selects RX2 yX2_sooner yX2_sooner, .methodLink RX0 66 yX2_longOf, .instanceMethod yX2_longOf, .selects RX2 yX2_longOf yX2_longOf, .methodLink RX0 69 yX2_playedThrough, .static yX4_setCell]
def wsX0_measureHops : List Cond := owX0_measureHops ++ (wsX00 ++ (wsX20 ++ (owX4_cell ++ (owX2_endOf ++ (owX2_hasBlock ++ (owX4_isBetween ++ (owX2_beginOf ++ (owX2_sizeOf ++ (owX2_longWith ++ (owX2_ruled ++ (owX4_dividedUp ++ (owX2_sooner ++ (owX2_played ++ (owX2_playedThrough ++ (owX2_wound ++ (owX2_turnsOf ++ (owX4_lengthOfTurns ++ (owX2_longOf ++ (owX4_setCell ++ [])))))))))))))))))))
theorem gdX0_measureHops : (wsX0_measureHops).all goodWord = true := by decide +kernel
def owX0_ticksBy : List Cond := [.code yX0_ticksBy cX0_ticksBy 4 (some .int), .fieldLink RX0 9 "TwoReels$Route" "hops" "[I", .fieldLink RX0 15 "TwoReels$Route" "fewest" "[I", .static yX4_cell, .initialized RX4]
def wsX0_ticksBy : List Cond := owX0_ticksBy ++ (wsX00 ++ (owX4_cell ++ []))
theorem gdX0_ticksBy : (wsX0_ticksBy).all goodWord = true := by decide +kernel
def owX0_fewestFrom : List Cond := [.code yX0_fewestFrom cX0_fewestFrom 5 (some .int), .constant RX0 72 (1073741824), .fieldLink RX0 32 "TwoReels$Route" "count" "I", .methodLink RX0 77 Lib.Math.min.name, .static Lib.Math.min.name, .initialized "java/lang/Math", .code Lib.Math.min.name Lib.Math.min.code 2 (some .int), .methodLink RX0 73 yX0_ticksBy, .instanceMethod yX0_ticksBy, .selects RX0 yX0_ticksBy yX0_ticksBy, .initialized RX0]
def wsX0_fewestFrom : List Cond := owX0_fewestFrom ++ (wsX00 ++ (owX0_ticksBy ++ (owX4_cell ++ [])))
theorem gdX0_fewestFrom : (wsX0_fewestFrom).all goodWord = true := by decide +kernel
def owX0_firstOfFewest : List Cond := [.code yX0_firstOfFewest cX0_firstOfFewest 5 (some .int), .methodLink RX0 36 yX0_fewestFrom, .instanceMethod yX0_fewestFrom, .selects RX0 yX0_fewestFrom yX0_fewestFrom]
def wsX0_firstOfFewest : List Cond := owX0_firstOfFewest ++ (wsX00 ++ (owX0_fewestFrom ++ (owX0_ticksBy ++ (owX4_cell ++ []))))
theorem gdX0_firstOfFewest : (wsX0_firstOfFewest).all goodWord = true := by decide +kernel
def owX0_followFirst : List Cond := [.code yX0_followFirst cX0_followFirst 5 none, .fieldLink RX0 82 "TwoReels$Route" "ticksInAll" "I", .fieldLink RX0 21 "TwoReels$Route" "stops" "[I", .fieldLink RX0 18 "TwoReels$Route" "chosen" "[I", .methodLink RX0 85 yX0_firstOfFewest, .instanceMethod yX0_firstOfFewest, .selects RX0 yX0_firstOfFewest yX0_firstOfFewest, .static yX4_setCell]
def wsX0_followFirst : List Cond := owX0_followFirst ++ (wsX00 ++ (owX0_fewestFrom ++ (owX0_ticksBy ++ (owX4_cell ++ (owX0_firstOfFewest ++ (owX4_setCell ++ []))))))
theorem gdX0_followFirst : (wsX0_followFirst).all goodWord = true := by decide +kernel
def owX0_plan : List Cond := [.code yX0_plan cX0_plan 5 none, .methodLink RX0 24 yX0_choose, .instanceMethod yX0_choose, .selects RX0 yX0_choose yX0_choose, .methodLink RX0 28 yX0_measureHops, .instanceMethod yX0_measureHops, .selects RX0 yX0_measureHops yX0_measureHops, .methodLink RX0 44 yX0_followFirst, .instanceMethod yX0_followFirst, .selects RX0 yX0_followFirst yX0_followFirst]
def wsX0_plan : List Cond := owX0_plan ++ (wsX00 ++ (wsX20 ++ (owX0_choose ++ (owX4_setCell ++ (owX0_measureHops ++ (owX4_cell ++ (owX2_endOf ++ (owX2_hasBlock ++ (owX4_isBetween ++ (owX2_beginOf ++ (owX2_sizeOf ++ (owX2_longWith ++ (owX2_ruled ++ (owX4_dividedUp ++ (owX2_sooner ++ (owX2_played ++ (owX2_playedThrough ++ (owX2_wound ++ (owX2_turnsOf ++ (owX4_lengthOfTurns ++ (owX2_longOf ++ (owX0_fewestFrom ++ (owX0_ticksBy ++ (owX0_followFirst ++ (owX0_firstOfFewest ++ [])))))))))))))))))))))))))
theorem gdX0_plan : (wsX0_plan).all goodWord = true := by decide +kernel
def owX0_stopAt : List Cond := [.code yX0_stopAt cX0_stopAt 2 (some .int), .fieldLink RX0 21 "TwoReels$Route" "stops" "[I", .static yX4_cell, .initialized RX4]
def wsX0_stopAt : List Cond := owX0_stopAt ++ (wsX00 ++ (owX4_cell ++ []))
theorem gdX0_stopAt : (wsX0_stopAt).all goodWord = true := by decide +kernel
def owX1_init : List Cond := [.code yX1_init cX1_init 1 none, .methodLink RX1 3 objectInit, .instanceMethod objectInit, .code objectInit ⟨#[0xb1]⟩ 1 none, .arrayClass .int, .fieldLink RX1 9 "TwoReels$Sheet" "cells" "[I", .fieldLink RX1 15 "TwoReels$Sheet" "laneNow" "I", .fieldLink RX1 19 "TwoReels$Sheet" "cellCount" "I"]
def wsX1_init : List Cond := owX1_init ++ (wsX10 ++ [])
theorem gdX1_init : (wsX1_init).all goodWord = true := by decide +kernel
def owX1_isNothing : List Cond := [.code yX1_isNothing cX1_isNothing 1 (some .boolean), .fieldLink RX1 15 "TwoReels$Sheet" "laneNow" "I"]
def wsX1_isNothing : List Cond := owX1_isNothing ++ (wsX10 ++ [])
theorem gdX1_isNothing : (wsX1_isNothing).all goodWord = true := by decide +kernel
def owX1_makeNew : List Cond := [.code yX1_makeNew cX1_makeNew 4 none, .fieldLink RX1 15 "TwoReels$Sheet" "laneNow" "I", .fieldLink RX1 19 "TwoReels$Sheet" "cellCount" "I", .fieldLink RX1 9 "TwoReels$Sheet" "cells" "[I", .static yX4_setCell, .initialized RX4]
def wsX1_makeNew : List Cond := owX1_makeNew ++ (wsX10 ++ (owX4_setCell ++ []))
theorem gdX1_makeNew : (wsX1_makeNew).all goodWord = true := by decide +kernel
def owX1_faultOf : List Cond := [.code yX1_faultOf cX1_faultOf 3 (some .int), .fieldLink RX1 19 "TwoReels$Sheet" "cellCount" "I", .methodLink RX1 26 yX1_isNothing, .instanceMethod yX1_isNothing, .selects RX1 yX1_isNothing yX1_isNothing, .initialized RX1, .static yX4_isBetween, .initialized RX4]
def wsX1_faultOf : List Cond := owX1_faultOf ++ (wsX10 ++ (owX1_isNothing ++ (owX4_isBetween ++ [])))
theorem gdX1_faultOf : (wsX1_faultOf).all goodWord = true := by decide +kernel
def owX1_cellAt : List Cond := [.code yX1_cellAt cX1_cellAt 2 (some .int), .fieldLink RX1 9 "TwoReels$Sheet" "cells" "[I", .static yX4_cell, .initialized RX4]
def wsX1_cellAt : List Cond := owX1_cellAt ++ (wsX10 ++ (owX4_cell ++ []))
theorem gdX1_cellAt : (wsX1_cellAt).all goodWord = true := by decide +kernel
def owX1_put : List Cond := [.code yX1_put cX1_put 4 none, .fieldLink RX1 15 "TwoReels$Sheet" "laneNow" "I", .fieldLink RX1 9 "TwoReels$Sheet" "cells" "[I", .static yX4_setCell, .initialized RX4]
def wsX1_put : List Cond := owX1_put ++ (wsX10 ++ (owX4_setCell ++ []))
theorem gdX1_put : (wsX1_put).all goodWord = true := by decide +kernel
def owX4_copyRow : List Cond := [.code yX4_copyRow cX4_copyRow 2 none, .methodLink RX4 292 Lib.Math.min.name, .static Lib.Math.min.name, .initialized "java/lang/Math", .code Lib.Math.min.name Lib.Math.min.code 2 (some .int), .methodLink RX4 297 arraycopyName, .native arraycopyName, .static arraycopyName, .initialized "java/lang/System"]
def wsX4_copyRow : List Cond := owX4_copyRow ++ []
theorem gdX4_copyRow : (wsX4_copyRow).all goodWord = true := by decide +kernel
def owX2_reset : List Cond := [.code yX2_reset cX2_reset 1 none, .fieldLink RX2 9 "TwoReels$Tape" "rules" "[I", .fieldLink RX2 46 "TwoReels$Tape" "blockCount" "I", .fieldLink RX2 50 "TwoReels$Tape" "head" "I", .fieldLink RX2 53 "TwoReels$Tape" "ticksSoFar" "I", .fieldLink RX2 56 "TwoReels$Tape" "typedCount" "I", .fieldLink RX2 59 "TwoReels$Tape" "deadTrack" "I", .fieldLink RX2 62 "TwoReels$Tape" "seenCount" "I", .static yX4_copyRow, .initialized RX4]
def wsX2_reset : List Cond := owX2_reset ++ (wsX20 ++ (owX4_copyRow ++ []))
theorem gdX2_reset : (wsX2_reset).all goodWord = true := by decide +kernel
def owX2_init : List Cond := [.code yX2_init cX2_init 1 none, .methodLink RX2 3 objectInit, .instanceMethod objectInit, .code objectInit ⟨#[0xb1]⟩ 1 none, .arrayClass .int, .fieldLink RX2 15 "TwoReels$Tape" "begins" "[I", .fieldLink RX2 18 "TwoReels$Tape" "sizes" "[I", .fieldLink RX2 21 "TwoReels$Tape" "columns" "[I", .fieldLink RX2 24 "TwoReels$Tape" "originals" "[I", .fieldLink RX2 27 "TwoReels$Tape" "typed" "[I", .fieldLink RX2 30 "TwoReels$Tape" "seenCounters" "[I", .fieldLink RX2 33 "TwoReels$Tape" "seenPlaces" "[I", .methodLink RX2 36 yX2_reset, .instanceMethod yX2_reset, .selects RX2 yX2_reset yX2_reset, .initialized RX2]
def wsX2_init : List Cond := owX2_init ++ (wsX20 ++ (owX2_reset ++ (owX4_copyRow ++ [])))
theorem gdX2_init : (wsX2_init).all goodWord = true := by decide +kernel
def owX2_becomes : List Cond := [.code yX2_becomes cX2_becomes 2 none, .fieldLink RX2 9 "TwoReels$Tape" "rules" "[I", .fieldLink RX2 15 "TwoReels$Tape" "begins" "[I", .fieldLink RX2 18 "TwoReels$Tape" "sizes" "[I", .fieldLink RX2 21 "TwoReels$Tape" "columns" "[I", .fieldLink RX2 24 "TwoReels$Tape" "originals" "[I", .fieldLink RX2 27 "TwoReels$Tape" "typed" "[I", .fieldLink RX2 30 "TwoReels$Tape" "seenCounters" "[I", .fieldLink RX2 33 "TwoReels$Tape" "seenPlaces" "[I", .fieldLink RX2 46 "TwoReels$Tape" "blockCount" "I", .fieldLink RX2 50 "TwoReels$Tape" "head" "I", .fieldLink RX2 53 "TwoReels$Tape" "ticksSoFar" "I", .fieldLink RX2 56 "TwoReels$Tape" "typedCount" "I", .fieldLink RX2 59 "TwoReels$Tape" "deadTrack" "I", .fieldLink RX2 62 "TwoReels$Tape" "seenCount" "I", .static yX4_copyRow, .initialized RX4]
def wsX2_becomes : List Cond := owX2_becomes ++ (wsX20 ++ (owX4_copyRow ++ []))
theorem gdX2_becomes : (wsX2_becomes).all goodWord = true := by decide +kernel
def owX2_hasPlace : List Cond := [.code yX2_hasPlace cX2_hasPlace 2 (some .boolean), .methodLink RX2 65 yX2_ruled, .instanceMethod yX2_ruled, .selects RX2 yX2_ruled yX2_ruled, .initialized RX2, .static yX4_isBetween, .initialized RX4]
def wsX2_hasPlace : List Cond := owX2_hasPlace ++ (wsX20 ++ (owX2_ruled ++ (owX4_isBetween ++ [])))
theorem gdX2_hasPlace : (wsX2_hasPlace).all goodWord = true := by decide +kernel
def owX2_rightTurns : List Cond := [.code yX2_rightTurns cX2_rightTurns 2 (some .int), .methodLink RX2 77 yX2_turnsOf, .instanceMethod yX2_turnsOf, .selects RX2 yX2_turnsOf yX2_turnsOf]
def wsX2_rightTurns : List Cond := owX2_rightTurns ++ (wsX20 ++ (owX2_turnsOf ++ (owX2_ruled ++ (owX4_lengthOfTurns ++ []))))
theorem gdX2_rightTurns : (wsX2_rightTurns).all goodWord = true := by decide +kernel
def owX2_leftTurns : List Cond := [.code yX2_leftTurns cX2_leftTurns 2 (some .int), .methodLink RX2 77 yX2_turnsOf, .instanceMethod yX2_turnsOf, .selects RX2 yX2_turnsOf yX2_turnsOf]
def wsX2_leftTurns : List Cond := owX2_leftTurns ++ (wsX20 ++ (owX2_ruled ++ (owX2_turnsOf ++ (owX4_lengthOfTurns ++ []))))
theorem gdX2_leftTurns : (wsX2_leftTurns).all goodWord = true := by decide +kernel
def owX2_firstShowing : List Cond := [.code yX2_firstShowing cX2_firstShowing 3 (some .int), .static yX4_lengthOfTurns, .methodLink RX2 80 yX2_hasPlace, .instanceMethod yX2_hasPlace, .selects RX2 yX2_hasPlace yX2_hasPlace]
def wsX2_firstShowing : List Cond := owX2_firstShowing ++ (wsX20 ++ (owX2_ruled ++ (owX4_lengthOfTurns ++ (owX2_hasPlace ++ (owX4_isBetween ++ [])))))
theorem gdX2_firstShowing : (wsX2_firstShowing).all goodWord = true := by decide +kernel
def owX2_lastShowing : List Cond := [.code yX2_lastShowing cX2_lastShowing 2 (some .int), .methodLink RX2 87 Lib.Math.min.name, .static Lib.Math.min.name, .initialized "java/lang/Math", .code Lib.Math.min.name Lib.Math.min.code 2 (some .int), .methodLink RX2 84 yX2_firstShowing, .instanceMethod yX2_firstShowing, .selects RX2 yX2_firstShowing yX2_firstShowing]
def wsX2_lastShowing : List Cond := owX2_lastShowing ++ (wsX20 ++ (owX2_firstShowing ++ (owX2_ruled ++ (owX4_lengthOfTurns ++ (owX2_hasPlace ++ (owX4_isBetween ++ []))))))
theorem gdX2_lastShowing : (wsX2_lastShowing).all goodWord = true := by decide +kernel
def owX2_meetingPlace : List Cond := [.code yX2_meetingPlace cX2_meetingPlace 5 (some .int), .methodLink RX2 93 yX2_rightTurns, .instanceMethod yX2_rightTurns, .selects RX2 yX2_rightTurns yX2_rightTurns, .methodLink RX2 96 yX2_leftTurns, .instanceMethod yX2_leftTurns, .selects RX2 yX2_leftTurns yX2_leftTurns]
def wsX2_meetingPlace : List Cond := owX2_meetingPlace ++ (wsX20 ++ (owX2_ruled ++ (owX2_rightTurns ++ (owX2_turnsOf ++ (owX4_lengthOfTurns ++ (owX2_leftTurns ++ []))))))
theorem gdX2_meetingPlace : (wsX2_meetingPlace).all goodWord = true := by decide +kernel
def owX2_goTo : List Cond := [.code yX2_goTo cX2_goTo 3 (some .int), .fieldLink RX2 50 "TwoReels$Tape" "head" "I", .fieldLink RX2 53 "TwoReels$Tape" "ticksSoFar" "I", .methodLink RX2 111 yX2_sooner, .instanceMethod yX2_sooner, .selects RX2 yX2_sooner yX2_sooner]
def wsX2_goTo : List Cond := owX2_goTo ++ (wsX20 ++ (owX2_sooner ++ (owX2_played ++ (owX2_ruled ++ (owX2_playedThrough ++ (owX2_wound ++ (owX2_turnsOf ++ (owX4_lengthOfTurns ++ []))))))))
theorem gdX2_goTo : (wsX2_goTo).all goodWord = true := by decide +kernel
def owX2_reach : List Cond := [.code yX2_reach cX2_reach 8 (some .int), .fieldLink RX2 50 "TwoReels$Tape" "head" "I", .methodLink RX2 111 yX2_sooner, .instanceMethod yX2_sooner, .selects RX2 yX2_sooner yX2_sooner]
def wsX2_reach : List Cond := owX2_reach ++ (wsX20 ++ (owX2_sooner ++ (owX2_played ++ (owX2_ruled ++ (owX2_playedThrough ++ (owX2_wound ++ (owX2_turnsOf ++ (owX4_lengthOfTurns ++ []))))))))
theorem gdX2_reach : (wsX2_reach).all goodWord = true := by decide +kernel
def owX2_hasAllOf : List Cond := [.code yX2_hasAllOf cX2_hasAllOf 2 (some .boolean), .fieldLink RX2 46 "TwoReels$Tape" "blockCount" "I"]
def wsX2_hasAllOf : List Cond := owX2_hasAllOf ++ (wsX20 ++ [])
theorem gdX2_hasAllOf : (wsX2_hasAllOf).all goodWord = true := by decide +kernel
def owX2_isMark : List Cond := [.code yX2_isMark cX2_isMark 2 (some .boolean), .methodLink RX2 118 yX2_sizeOf, .instanceMethod yX2_sizeOf, .selects RX2 yX2_sizeOf yX2_sizeOf, .initialized RX2]
def wsX2_isMark : List Cond := owX2_isMark ++ (wsX20 ++ (owX2_sizeOf ++ (owX4_cell ++ [])))
theorem gdX2_isMark : (wsX2_isMark).all goodWord = true := by decide +kernel
def owX2_blockWith : List Cond := [.code yX2_blockWith cX2_blockWith 3 (some .int), .methodLink RX2 133 yX2_endOf, .instanceMethod yX2_endOf, .selects RX2 yX2_endOf yX2_endOf]
def wsX2_blockWith : List Cond := owX2_blockWith ++ (wsX20 ++ (owX2_beginOf ++ (owX4_cell ++ (owX2_endOf ++ (owX2_hasBlock ++ (owX4_isBetween ++ (owX2_sizeOf ++ (owX2_longWith ++ (owX2_ruled ++ (owX4_dividedUp ++ []))))))))))
theorem gdX2_blockWith : (wsX2_blockWith).all goodWord = true := by decide +kernel
def owX2_markCount : List Cond := [.code yX2_markCount cX2_markCount 3 (some .int), .fieldLink RX2 46 "TwoReels$Tape" "blockCount" "I", .methodLink RX2 136 yX2_isMark, .instanceMethod yX2_isMark, .selects RX2 yX2_isMark yX2_isMark]
def wsX2_markCount : List Cond := owX2_markCount ++ (wsX20 ++ (owX2_isMark ++ (owX2_sizeOf ++ (owX4_cell ++ []))))
theorem gdX2_markCount : (wsX2_markCount).all goodWord = true := by decide +kernel
def owX2_byteCount : List Cond := [.code yX2_byteCount cX2_byteCount 3 (some .int), .fieldLink RX2 46 "TwoReels$Tape" "blockCount" "I", .methodLink RX2 118 yX2_sizeOf, .instanceMethod yX2_sizeOf, .selects RX2 yX2_sizeOf yX2_sizeOf, .initialized RX2]
def wsX2_byteCount : List Cond := owX2_byteCount ++ (wsX20 ++ (owX2_sizeOf ++ (owX4_cell ++ [])))
theorem gdX2_byteCount : (wsX2_byteCount).all goodWord = true := by decide +kernel
def owX2_typeOne : List Cond := [.code yX2_typeOne cX2_typeOne 2 (some .int), .fieldLink RX2 27 "TwoReels$Tape" "typed" "[I", .fieldLink RX2 56 "TwoReels$Tape" "typedCount" "I", .static yX4_setCell, .initialized RX4]
def wsX2_typeOne : List Cond := owX2_typeOne ++ (wsX20 ++ (owX4_setCell ++ []))
theorem gdX2_typeOne : (wsX2_typeOne).all goodWord = true := by decide +kernel
def owX2_beginningAt : List Cond := [.code yX2_beginningAt cX2_beginningAt 2 (some .int), .methodLink RX2 133 yX2_endOf, .instanceMethod yX2_endOf, .selects RX2 yX2_endOf yX2_endOf]
def wsX2_beginningAt : List Cond := owX2_beginningAt ++ (wsX20 ++ (owX2_endOf ++ (owX2_hasBlock ++ (owX4_isBetween ++ (owX2_beginOf ++ (owX4_cell ++ (owX2_sizeOf ++ (owX2_longWith ++ (owX2_ruled ++ (owX4_dividedUp ++ []))))))))))
theorem gdX2_beginningAt : (wsX2_beginningAt).all goodWord = true := by decide +kernel
def owX2_hasRoomAt : List Cond := [.code yX2_hasRoomAt cX2_hasRoomAt 3 (some .boolean), .methodLink RX2 143 yX2_beginningAt, .instanceMethod yX2_beginningAt, .selects RX2 yX2_beginningAt yX2_beginningAt]
def wsX2_hasRoomAt : List Cond := owX2_hasRoomAt ++ (wsX20 ++ (owX2_beginningAt ++ (owX2_endOf ++ (owX2_hasBlock ++ (owX4_isBetween ++ (owX2_beginOf ++ (owX4_cell ++ (owX2_sizeOf ++ (owX2_longWith ++ (owX2_ruled ++ (owX4_dividedUp ++ [])))))))))))
theorem gdX2_hasRoomAt : (wsX2_hasRoomAt).all goodWord = true := by decide +kernel
def owJ6_bitCount_0f7a4 : List Cond := [.code yJ6_bitCount_0f7a4 cJ6_bitCount_0f7a4 1 (some .int), .constant RJ6 265 (1431655765), .constant RJ6 266 (858993459), .constant RJ6 267 (252645135)]
def wsJ6_bitCount_0f7a4 : List Cond := owJ6_bitCount_0f7a4 ++ []
theorem gdJ6_bitCount_0f7a4 : (wsJ6_bitCount_0f7a4).all goodWord = true := by decide +kernel
def owX2_setColumn : List Cond := [.code yX2_setColumn cX2_setColumn 4 none, .fieldLink RX2 21 "TwoReels$Tape" "columns" "[I", .static yX4_setCell, .initialized RX4]
def wsX2_setColumn : List Cond := owX2_setColumn ++ (wsX20 ++ (owX4_setCell ++ []))
theorem gdX2_setColumn : (wsX2_setColumn).all goodWord = true := by decide +kernel
def owX2_putBlock : List Cond := [.code yX2_putBlock cX2_putBlock 8 none, .fieldLink RX2 46 "TwoReels$Tape" "blockCount" "I", .fieldLink RX2 15 "TwoReels$Tape" "begins" "[I", .fieldLink RX2 18 "TwoReels$Tape" "sizes" "[I", .fieldLink RX2 27 "TwoReels$Tape" "typed" "[I", .fieldLink RX2 24 "TwoReels$Tape" "originals" "[I", .static yX4_cell, .methodLink RX2 150 yJ6_bitCount_0f7a4, .static yJ6_bitCount_0f7a4, .initialized RJ6, .methodLink RX2 155 yX2_setColumn, .instanceMethod yX2_setColumn, .selects RX2 yX2_setColumn yX2_setColumn, .initialized RX2]
def wsX2_putBlock : List Cond := owX2_putBlock ++ (wsX20 ++ (owX4_setCell ++ (owX4_cell ++ (owJ6_bitCount_0f7a4 ++ (owX2_setColumn ++ [])))))
theorem gdX2_putBlock : (wsX2_putBlock).all goodWord = true := by decide +kernel
def owX2_writeAt : List Cond := [.code yX2_writeAt cX2_writeAt 5 (some .int), .fieldLink RX2 50 "TwoReels$Tape" "head" "I", .fieldLink RX2 53 "TwoReels$Tape" "ticksSoFar" "I", .methodLink RX2 143 yX2_beginningAt, .instanceMethod yX2_beginningAt, .selects RX2 yX2_beginningAt yX2_beginningAt, .methodLink RX2 111 yX2_sooner, .instanceMethod yX2_sooner, .selects RX2 yX2_sooner yX2_sooner, .methodLink RX2 146 yX2_putBlock, .instanceMethod yX2_putBlock, .selects RX2 yX2_putBlock yX2_putBlock]
def wsX2_writeAt : List Cond := owX2_writeAt ++ (wsX20 ++ (owX2_beginningAt ++ (owX2_endOf ++ (owX2_hasBlock ++ (owX4_isBetween ++ (owX2_beginOf ++ (owX4_cell ++ (owX2_sizeOf ++ (owX2_longWith ++ (owX2_ruled ++ (owX4_dividedUp ++ (owX2_sooner ++ (owX2_played ++ (owX2_playedThrough ++ (owX2_wound ++ (owX2_turnsOf ++ (owX4_lengthOfTurns ++ (owX2_putBlock ++ (owX4_setCell ++ (owJ6_bitCount_0f7a4 ++ (owX2_setColumn ++ [])))))))))))))))))))))
theorem gdX2_writeAt : (wsX2_writeAt).all goodWord = true := by decide +kernel
def owX2_layOutBlocks : List Cond := [.code yX2_layOutBlocks cX2_layOutBlocks 2 none, .methodLink RX2 143 yX2_beginningAt, .instanceMethod yX2_beginningAt, .selects RX2 yX2_beginningAt yX2_beginningAt, .static yX4_setCell]
def wsX2_layOutBlocks : List Cond := owX2_layOutBlocks ++ (wsX20 ++ (owX2_beginningAt ++ (owX2_endOf ++ (owX2_hasBlock ++ (owX4_isBetween ++ (owX2_beginOf ++ (owX4_cell ++ (owX2_sizeOf ++ (owX2_longWith ++ (owX2_ruled ++ (owX4_dividedUp ++ (owX4_setCell ++ []))))))))))))
theorem gdX2_layOutBlocks : (wsX2_layOutBlocks).all goodWord = true := by decide +kernel
def owX2_columnOf : List Cond := [.code yX2_columnOf cX2_columnOf 3 (some .int), .fieldLink RX2 21 "TwoReels$Tape" "columns" "[I", .static yX4_cell, .initialized RX4]
def wsX2_columnOf : List Cond := owX2_columnOf ++ (wsX20 ++ (owX4_cell ++ []))
theorem gdX2_columnOf : (wsX2_columnOf).all goodWord = true := by decide +kernel
def owX2_originalOf : List Cond := [.code yX2_originalOf cX2_originalOf 3 (some .int), .fieldLink RX2 24 "TwoReels$Tape" "originals" "[I", .static yX4_cell, .initialized RX4]
def wsX2_originalOf : List Cond := owX2_originalOf ++ (wsX20 ++ (owX4_cell ++ []))
theorem gdX2_originalOf : (wsX2_originalOf).all goodWord = true := by decide +kernel
def owX2_moveBlock : List Cond := [.code yX2_moveBlock cX2_moveBlock 5 none, .methodLink RX2 130 yX2_beginOf, .instanceMethod yX2_beginOf, .selects RX2 yX2_beginOf yX2_beginOf, .initialized RX2, .methodLink RX2 118 yX2_sizeOf, .instanceMethod yX2_sizeOf, .selects RX2 yX2_sizeOf yX2_sizeOf, .methodLink RX2 161 yX2_columnOf, .instanceMethod yX2_columnOf, .selects RX2 yX2_columnOf yX2_columnOf, .methodLink RX2 155 yX2_setColumn, .instanceMethod yX2_setColumn, .selects RX2 yX2_setColumn yX2_setColumn, .methodLink RX2 164 yX2_originalOf, .instanceMethod yX2_originalOf, .selects RX2 yX2_originalOf yX2_originalOf]
def wsX2_moveBlock : List Cond := owX2_moveBlock ++ (wsX20 ++ (owX2_beginOf ++ (owX4_cell ++ (owX4_setCell ++ (owX2_sizeOf ++ (owX2_columnOf ++ (owX2_setColumn ++ (owX2_originalOf ++ []))))))))
theorem gdX2_moveBlock : (wsX2_moveBlock).all goodWord = true := by decide +kernel
def owX2_cutOut : List Cond := [.code yX2_cutOut cX2_cutOut 7 (some .int), .fieldLink RX2 50 "TwoReels$Tape" "head" "I", .methodLink RX2 133 yX2_endOf, .instanceMethod yX2_endOf, .selects RX2 yX2_endOf yX2_endOf, .methodLink RX2 158 yX2_moveBlock, .instanceMethod yX2_moveBlock, .selects RX2 yX2_moveBlock yX2_moveBlock]
def wsX2_cutOut : List Cond := owX2_cutOut ++ (wsX20 ++ (owX2_beginOf ++ (owX4_cell ++ (owX2_endOf ++ (owX2_hasBlock ++ (owX4_isBetween ++ (owX2_sizeOf ++ (owX2_longWith ++ (owX2_ruled ++ (owX4_dividedUp ++ (owX2_moveBlock ++ (owX4_setCell ++ (owX2_columnOf ++ (owX2_setColumn ++ (owX2_originalOf ++ [])))))))))))))))
theorem gdX2_cutOut : (wsX2_cutOut).all goodWord = true := by decide +kernel
def owX2_hasColumn : List Cond := [.code yX2_hasColumn cX2_hasColumn 3 (some .boolean), .methodLink RX2 127 yX2_hasBlock, .instanceMethod yX2_hasBlock, .selects RX2 yX2_hasBlock yX2_hasBlock, .methodLink RX2 136 yX2_isMark, .instanceMethod yX2_isMark, .selects RX2 yX2_isMark yX2_isMark]
def wsX2_hasColumn : List Cond := owX2_hasColumn ++ (wsX20 ++ (owX2_hasBlock ++ (owX4_isBetween ++ (owX2_isMark ++ (owX2_sizeOf ++ (owX4_cell ++ []))))))
theorem gdX2_hasColumn : (wsX2_hasColumn).all goodWord = true := by decide +kernel
def owX2_turnBit : List Cond := [.code yX2_turnBit cX2_turnBit 4 (some .int), .methodLink RX2 161 yX2_columnOf, .instanceMethod yX2_columnOf, .selects RX2 yX2_columnOf yX2_columnOf, .initialized RX2, .methodLink RX2 155 yX2_setColumn, .instanceMethod yX2_setColumn, .selects RX2 yX2_setColumn yX2_setColumn]
def wsX2_turnBit : List Cond := owX2_turnBit ++ (wsX20 ++ (owX2_columnOf ++ (owX4_cell ++ (owX2_setColumn ++ (owX4_setCell ++ [])))))
theorem gdX2_turnBit : (wsX2_turnBit).all goodWord = true := by decide +kernel
def owX2_isWrongAlong : List Cond := [.code yX2_isWrongAlong cX2_isWrongAlong 3 (some .boolean), .methodLink RX2 161 yX2_columnOf, .instanceMethod yX2_columnOf, .selects RX2 yX2_columnOf yX2_columnOf, .initialized RX2, .methodLink RX2 150 yJ6_bitCount_0f7a4, .static yJ6_bitCount_0f7a4, .initialized RJ6]
def wsX2_isWrongAlong : List Cond := owX2_isWrongAlong ++ (wsX20 ++ (owX2_columnOf ++ (owX4_cell ++ (owJ6_bitCount_0f7a4 ++ []))))
theorem gdX2_isWrongAlong : (wsX2_isWrongAlong).all goodWord = true := by decide +kernel
def owX2_wrongAlongCount : List Cond := [.code yX2_wrongAlongCount cX2_wrongAlongCount 4 (some .int), .methodLink RX2 118 yX2_sizeOf, .instanceMethod yX2_sizeOf, .selects RX2 yX2_sizeOf yX2_sizeOf, .methodLink RX2 167 yX2_isWrongAlong, .instanceMethod yX2_isWrongAlong, .selects RX2 yX2_isWrongAlong yX2_isWrongAlong]
def wsX2_wrongAlongCount : List Cond := owX2_wrongAlongCount ++ (wsX20 ++ (owX2_sizeOf ++ (owX4_cell ++ (owX2_isWrongAlong ++ (owX2_columnOf ++ (owJ6_bitCount_0f7a4 ++ []))))))
theorem gdX2_wrongAlongCount : (wsX2_wrongAlongCount).all goodWord = true := by decide +kernel
def owX2_wrongAcross : List Cond := [.code yX2_wrongAcross cX2_wrongAcross 5 (some .int), .methodLink RX2 118 yX2_sizeOf, .instanceMethod yX2_sizeOf, .selects RX2 yX2_sizeOf yX2_sizeOf, .initialized RX2, .methodLink RX2 161 yX2_columnOf, .instanceMethod yX2_columnOf, .selects RX2 yX2_columnOf yX2_columnOf]
def wsX2_wrongAcross : List Cond := owX2_wrongAcross ++ (wsX20 ++ (owX2_sizeOf ++ (owX4_cell ++ (owX2_columnOf ++ []))))
theorem gdX2_wrongAcross : (wsX2_wrongAcross).all goodWord = true := by decide +kernel
def owX2_readingOf : List Cond := [.code yX2_readingOf cX2_readingOf 6 (some .int), .methodLink RX2 171 yX2_wrongAlongCount, .instanceMethod yX2_wrongAlongCount, .selects RX2 yX2_wrongAlongCount yX2_wrongAlongCount, .methodLink RX2 174 yX2_wrongAcross, .instanceMethod yX2_wrongAcross, .selects RX2 yX2_wrongAcross yX2_wrongAcross]
def wsX2_readingOf : List Cond := owX2_readingOf ++ (wsX20 ++ (owX2_wrongAlongCount ++ (owX2_sizeOf ++ (owX4_cell ++ (owX2_isWrongAlong ++ (owX2_columnOf ++ (owJ6_bitCount_0f7a4 ++ (owX2_wrongAcross ++ []))))))))
theorem gdX2_readingOf : (wsX2_readingOf).all goodWord = true := by decide +kernel
def owX2_byteAsRead : List Cond := [.code yX2_byteAsRead cX2_byteAsRead 4 (some .int), .fieldLink RX2 59 "TwoReels$Tape" "deadTrack" "I", .methodLink RX2 167 yX2_isWrongAlong, .instanceMethod yX2_isWrongAlong, .selects RX2 yX2_isWrongAlong yX2_isWrongAlong, .methodLink RX2 174 yX2_wrongAcross, .instanceMethod yX2_wrongAcross, .selects RX2 yX2_wrongAcross yX2_wrongAcross]
def wsX2_byteAsRead : List Cond := owX2_byteAsRead ++ (wsX20 ++ (owX2_columnOf ++ (owX4_cell ++ (owX2_isWrongAlong ++ (owJ6_bitCount_0f7a4 ++ (owX2_wrongAcross ++ (owX2_sizeOf ++ [])))))))
theorem gdX2_byteAsRead : (wsX2_byteAsRead).all goodWord = true := by decide +kernel
def owX2_isReadAsWritten : List Cond := [.code yX2_isReadAsWritten cX2_isReadAsWritten 3 (some .boolean), .methodLink RX2 177 yX2_byteAsRead, .instanceMethod yX2_byteAsRead, .selects RX2 yX2_byteAsRead yX2_byteAsRead, .methodLink RX2 164 yX2_originalOf, .instanceMethod yX2_originalOf, .selects RX2 yX2_originalOf yX2_originalOf]
def wsX2_isReadAsWritten : List Cond := owX2_isReadAsWritten ++ (wsX20 ++ (owX2_sizeOf ++ (owX4_cell ++ (owX2_byteAsRead ++ (owX2_columnOf ++ (owX2_isWrongAlong ++ (owJ6_bitCount_0f7a4 ++ (owX2_wrongAcross ++ (owX2_originalOf ++ [])))))))))
theorem gdX2_isReadAsWritten : (wsX2_isReadAsWritten).all goodWord = true := by decide +kernel
def owX2_lostBlocksBy : List Cond := [.code yX2_lostBlocksBy cX2_lostBlocksBy 4 (some .int), .fieldLink RX2 46 "TwoReels$Tape" "blockCount" "I", .methodLink RX2 180 yX2_readingOf, .instanceMethod yX2_readingOf, .selects RX2 yX2_readingOf yX2_readingOf]
def wsX2_lostBlocksBy : List Cond := owX2_lostBlocksBy ++ (wsX20 ++ (owX2_readingOf ++ (owX2_wrongAlongCount ++ (owX2_sizeOf ++ (owX4_cell ++ (owX2_isWrongAlong ++ (owX2_columnOf ++ (owJ6_bitCount_0f7a4 ++ (owX2_wrongAcross ++ [])))))))))
theorem gdX2_lostBlocksBy : (wsX2_lostBlocksBy).all goodWord = true := by decide +kernel
def owX2_fooledBlocks : List Cond := [.code yX2_fooledBlocks cX2_fooledBlocks 3 (some .int), .fieldLink RX2 46 "TwoReels$Tape" "blockCount" "I", .methodLink RX2 180 yX2_readingOf, .instanceMethod yX2_readingOf, .selects RX2 yX2_readingOf yX2_readingOf, .methodLink RX2 183 yX2_isReadAsWritten, .instanceMethod yX2_isReadAsWritten, .selects RX2 yX2_isReadAsWritten yX2_isReadAsWritten]
def wsX2_fooledBlocks : List Cond := owX2_fooledBlocks ++ (wsX20 ++ (owX2_readingOf ++ (owX2_wrongAlongCount ++ (owX2_sizeOf ++ (owX4_cell ++ (owX2_isWrongAlong ++ (owX2_columnOf ++ (owJ6_bitCount_0f7a4 ++ (owX2_wrongAcross ++ (owX2_isReadAsWritten ++ (owX2_byteAsRead ++ (owX2_originalOf ++ []))))))))))))
theorem gdX2_fooledBlocks : (wsX2_fooledBlocks).all goodWord = true := by decide +kernel
def owX2_mendedBlocks : List Cond := [.code yX2_mendedBlocks cX2_mendedBlocks 4 (some .int), .fieldLink RX2 46 "TwoReels$Tape" "blockCount" "I", .fieldLink RX2 59 "TwoReels$Tape" "deadTrack" "I", .methodLink RX2 180 yX2_readingOf, .instanceMethod yX2_readingOf, .selects RX2 yX2_readingOf yX2_readingOf]
def wsX2_mendedBlocks : List Cond := owX2_mendedBlocks ++ (wsX20 ++ (owX2_readingOf ++ (owX2_wrongAlongCount ++ (owX2_sizeOf ++ (owX4_cell ++ (owX2_isWrongAlong ++ (owX2_columnOf ++ (owJ6_bitCount_0f7a4 ++ (owX2_wrongAcross ++ [])))))))))
theorem gdX2_mendedBlocks : (wsX2_mendedBlocks).all goodWord = true := by decide +kernel
def owX2_roomFor : List Cond := [.code yX2_roomFor cX2_roomFor 3 (some .int), .methodLink RX2 124 yX2_longWith, .instanceMethod yX2_longWith, .selects RX2 yX2_longWith yX2_longWith]
def wsX2_roomFor : List Cond := owX2_roomFor ++ (wsX20 ++ (owX2_ruled ++ (owX2_longWith ++ (owX4_dividedUp ++ []))))
theorem gdX2_roomFor : (wsX2_roomFor).all goodWord = true := by decide +kernel
def owX2_timeWhenFilled : List Cond := [.code yX2_timeWhenFilled cX2_timeWhenFilled 6 (some .int), .methodLink RX2 87 Lib.Math.min.name, .static Lib.Math.min.name, .initialized "java/lang/Math", .code Lib.Math.min.name Lib.Math.min.code 2 (some .int), .methodLink RX2 190 Lib.Math.max.name, .static Lib.Math.max.name, .code Lib.Math.max.name Lib.Math.max.code 2 (some .int)]
def wsX2_timeWhenFilled : List Cond := owX2_timeWhenFilled ++ []
theorem gdX2_timeWhenFilled : (wsX2_timeWhenFilled).all goodWord = true := by decide +kernel
def owX2_streamed : List Cond := [.code yX2_streamed cX2_streamed 10 (some .int), .methodLink RX2 102 yX2_playedThrough, .instanceMethod yX2_playedThrough, .selects RX2 yX2_playedThrough yX2_playedThrough, .methodLink RX2 186 yX2_timeWhenFilled, .static yX2_timeWhenFilled]
def wsX2_streamed : List Cond := owX2_streamed ++ (wsX20 ++ (owX2_ruled ++ (owX2_playedThrough ++ (owX2_timeWhenFilled ++ []))))
theorem gdX2_streamed : (wsX2_streamed).all goodWord = true := by decide +kernel
def owX2_addSeen : List Cond := [.code yX2_addSeen cX2_addSeen 3 (some .int), .fieldLink RX2 30 "TwoReels$Tape" "seenCounters" "[I", .fieldLink RX2 62 "TwoReels$Tape" "seenCount" "I", .fieldLink RX2 33 "TwoReels$Tape" "seenPlaces" "[I", .static yX4_setCell, .initialized RX4]
def wsX2_addSeen : List Cond := owX2_addSeen ++ (wsX20 ++ (owX4_setCell ++ []))
theorem gdX2_addSeen : (wsX2_addSeen).all goodWord = true := by decide +kernel
def owX2_canBe : List Cond := [.code yX2_canBe cX2_canBe 6 (some .boolean), .fieldLink RX2 62 "TwoReels$Tape" "seenCount" "I", .fieldLink RX2 30 "TwoReels$Tape" "seenCounters" "[I", .fieldLink RX2 33 "TwoReels$Tape" "seenPlaces" "[I", .static yX4_cell, .initialized RX4, .static yX4_lengthOfTurns]
def wsX2_canBe : List Cond := owX2_canBe ++ (wsX20 ++ (owX4_cell ++ (owX4_lengthOfTurns ++ [])))
theorem gdX2_canBe : (wsX2_canBe).all goodWord = true := by decide +kernel
def owX3_init : List Cond := [.code yX3_init cX3_init 1 none, .methodLink RX3 3 objectInit, .arrayClass .byte, .fieldLink RX3 9 "TwoReels$TextReader" "letters" "[B", .classLink RX3 15 RX2, .instantiable RX2 14, .fieldLink RX3 18 "TwoReels$TextReader" "draft" "LTwoReels$Tape;", .methodLink RX3 17 yX2_init, .instanceMethod yX2_init]
def wsX3_init : List Cond := owX3_init ++ (wsX30 ++ (wsX20 ++ (owX2_init ++ (owX2_reset ++ (owX4_copyRow ++ [])))))
theorem gdX3_init : (wsX3_init).all goodWord = true := by decide +kernel
def owX3_addLetter : List Cond := [.code yX3_addLetter cX3_addLetter 2 none, .fieldLink RX3 22 "TwoReels$TextReader" "letterCount" "I", .fieldLink RX3 9 "TwoReels$TextReader" "letters" "[B"]
def wsX3_addLetter : List Cond := owX3_addLetter ++ (wsX30 ++ [])
theorem gdX3_addLetter : (wsX3_addLetter).all goodWord = true := by decide +kernel
def owX3_letterAt : List Cond := [.code yX3_letterAt cX3_letterAt 2 (some .int), .fieldLink RX3 22 "TwoReels$TextReader" "letterCount" "I", .fieldLink RX3 9 "TwoReels$TextReader" "letters" "[B"]
def wsX3_letterAt : List Cond := owX3_letterAt ++ (wsX30 ++ [])
theorem gdX3_letterAt : (wsX3_letterAt).all goodWord = true := by decide +kernel
def owX3_isSmallLetter : List Cond := [.code yX3_isSmallLetter cX3_isSmallLetter 1 (some .boolean)]
def wsX3_isSmallLetter : List Cond := owX3_isSmallLetter ++ []
theorem gdX3_isSmallLetter : (wsX3_isSmallLetter).all goodWord = true := by decide +kernel
def owX3_isFigure : List Cond := [.code yX3_isFigure cX3_isFigure 1 (some .boolean)]
def wsX3_isFigure : List Cond := owX3_isFigure ++ []
theorem gdX3_isFigure : (wsX3_isFigure).all goodWord = true := by decide +kernel
def owX3_readNumber : List Cond := [.code yX3_readNumber cX3_readNumber 2 none, .fieldLink RX3 29 "TwoReels$TextReader" "next" "I", .fieldLink RX3 73 "TwoReels$TextReader" "start" "I", .fieldLink RX3 44 "TwoReels$TextReader" "kind" "I", .fieldLink RX3 86 "TwoReels$TextReader" "value" "I", .methodLink RX3 70 yX3_letterAt, .instanceMethod yX3_letterAt, .selects RX3 yX3_letterAt yX3_letterAt, .initialized RX3, .methodLink RX3 80 yX3_isFigure, .static yX3_isFigure]
def wsX3_readNumber : List Cond := owX3_readNumber ++ (wsX30 ++ (owX3_letterAt ++ (owX3_isFigure ++ [])))
theorem gdX3_readNumber : (wsX3_readNumber).all goodWord = true := by decide +kernel
def owX3_refuse : List Cond := [.code yX3_refuse cX3_refuse 3 none, .fieldLink RX3 35 "TwoReels$TextReader" "faultCode" "I", .fieldLink RX3 38 "TwoReels$TextReader" "faultPlace" "I"]
def wsX3_refuse : List Cond := owX3_refuse ++ (wsX30 ++ [])
theorem gdX3_refuse : (wsX3_refuse).all goodWord = true := by decide +kernel
def owX3_readToken : List Cond := [.code yX3_readToken cX3_readToken 2 none, .methodLink RX3 76 yX3_isSmallLetter, .static yX3_isSmallLetter, .methodLink RX3 83 yX3_readNumber, .instanceMethod yX3_readNumber, .selects RX3 yX3_readNumber yX3_readNumber, .methodLink RX3 66 yX3_refuse, .instanceMethod yX3_refuse, .selects RX3 yX3_refuse yX3_refuse]
def wsX3_readToken : List Cond := owX3_readToken ++ (wsX30 ++ (owX3_letterAt ++ (owX3_isSmallLetter ++ (owX3_isFigure ++ (owX3_readNumber ++ (owX3_refuse ++ []))))))
theorem gdX3_readToken : (wsX3_readToken).all goodWord = true := by decide +kernel
def owJ0_coder_7d493 : List Cond := [.code yJ0_coder_7d493 cJ0_coder_7d493 1 (some .byte), .fieldLink RJ0 38 "java/lang/String" "COMPACT_STRINGS" "Z", .fieldLink RJ0 15 "java/lang/String" "coder" "B"]
def wsJ0_coder_7d493 : List Cond := owJ0_coder_7d493 ++ []
theorem gdJ0_coder_7d493 : (wsJ0_coder_7d493).all goodWord = true := by decide +kernel
def owJ0_length_8abf5 : List Cond := [.code yJ0_length_8abf5 cJ0_length_8abf5 1 (some .int), .fieldLink RJ0 9 "java/lang/String" "value" "[B", .methodLink RJ0 335 yJ0_coder_7d493, .instanceMethod yJ0_coder_7d493, .selects RJ0 yJ0_coder_7d493 yJ0_coder_7d493, .initialized RJ0]
def wsJ0_length_8abf5 : List Cond := owJ0_length_8abf5 ++ (owJ0_coder_7d493 ++ [])
theorem gdJ0_length_8abf5 : (wsJ0_length_8abf5).all goodWord = true := by decide +kernel
def owJ0_isLatin1_aae02 : List Cond := [.code yJ0_isLatin1_aae02 cJ0_isLatin1_aae02 1 (some .boolean), .fieldLink RJ0 38 "java/lang/String" "COMPACT_STRINGS" "Z", .fieldLink RJ0 15 "java/lang/String" "coder" "B"]
def wsJ0_isLatin1_aae02 : List Cond := owJ0_isLatin1_aae02 ++ []
theorem gdJ0_isLatin1_aae02 : (wsJ0_isLatin1_aae02).all goodWord = true := by decide +kernel
def owJ3_checkIndex_8e157 : List Cond := [.code yJ3_checkIndex_8e157 cJ3_checkIndex_8e157 3 (some .int)]
def wsJ3_checkIndex_8e157 : List Cond := owJ3_checkIndex_8e157 ++ []
theorem gdJ3_checkIndex_8e157 : (wsJ3_checkIndex_8e157).all goodWord = true := by decide +kernel
def owJ0_checkIndex_df160 : List Cond := [.code yJ0_checkIndex_df160 cJ0_checkIndex_df160 2 none, .fieldLink RJ0 1053 "jdk/internal/util/Preconditions" "SIOOBE_FORMATTER" "Ljava/util/function/BiFunction;", .methodLink RJ0 1059 yJ3_checkIndex_8e157, .static yJ3_checkIndex_8e157, .initialized RJ3]
def wsJ0_checkIndex_df160 : List Cond := owJ0_checkIndex_df160 ++ (owJ3_checkIndex_8e157 ++ [])
theorem gdJ0_checkIndex_df160 : (wsJ0_checkIndex_df160).all goodWord = true := by decide +kernel
def owJ1_charAt_3b067 : List Cond := [.code yJ1_charAt_3b067 cJ1_charAt_3b067 2 (some .char), .methodLink RJ1 9 yJ0_checkIndex_df160, .static yJ0_checkIndex_df160, .initialized RJ0]
def wsJ1_charAt_3b067 : List Cond := owJ1_charAt_3b067 ++ (owJ0_checkIndex_df160 ++ (owJ3_checkIndex_8e157 ++ []))
theorem gdJ1_charAt_3b067 : (wsJ1_charAt_3b067).all goodWord = true := by decide +kernel
def owJ2_length_9d52b : List Cond := [.code yJ2_length_9d52b cJ2_length_9d52b 1 (some .int)]
def wsJ2_length_9d52b : List Cond := owJ2_length_9d52b ++ []
theorem gdJ2_length_9d52b : (wsJ2_length_9d52b).all goodWord = true := by decide +kernel
def owJ2_checkIndex_2214a : List Cond := [.code yJ2_checkIndex_2214a cJ2_checkIndex_2214a 2 none, .methodLink RJ2 48 yJ2_length_9d52b, .static yJ2_length_9d52b, .initialized RJ2, .methodLink RJ2 414 yJ0_checkIndex_df160, .static yJ0_checkIndex_df160, .initialized RJ0]
def wsJ2_checkIndex_2214a : List Cond := owJ2_checkIndex_2214a ++ (owJ2_length_9d52b ++ (owJ0_checkIndex_df160 ++ (owJ3_checkIndex_8e157 ++ [])))
theorem gdJ2_checkIndex_2214a : (wsJ2_checkIndex_2214a).all goodWord = true := by decide +kernel
def owJ2_getChar_3b067 : List Cond := [.code yJ2_getChar_3b067 cJ2_getChar_3b067 2 (some .char), .fieldLink RJ2 44 "java/lang/StringUTF16" "$assertionsDisabled" "Z", .fieldLink RJ2 59 "java/lang/StringUTF16" "HI_BYTE_SHIFT" "I", .fieldLink RJ2 63 "java/lang/StringUTF16" "LO_BYTE_SHIFT" "I", .methodLink RJ2 48 yJ2_length_9d52b, .static yJ2_length_9d52b, .initialized RJ2]
def wsJ2_getChar_3b067 : List Cond := owJ2_getChar_3b067 ++ (owJ2_length_9d52b ++ [])
theorem gdJ2_getChar_3b067 : (wsJ2_getChar_3b067).all goodWord = true := by decide +kernel
def owJ2_charAt_3b067 : List Cond := [.code yJ2_charAt_3b067 cJ2_charAt_3b067 2 (some .char), .methodLink RJ2 67 yJ2_checkIndex_2214a, .static yJ2_checkIndex_2214a, .methodLink RJ2 71 yJ2_getChar_3b067, .static yJ2_getChar_3b067]
def wsJ2_charAt_3b067 : List Cond := owJ2_charAt_3b067 ++ (owJ2_checkIndex_2214a ++ (owJ2_length_9d52b ++ (owJ0_checkIndex_df160 ++ (owJ3_checkIndex_8e157 ++ (owJ2_getChar_3b067 ++ [])))))
theorem gdJ2_charAt_3b067 : (wsJ2_charAt_3b067).all goodWord = true := by decide +kernel
def owJ0_charAt_5068e : List Cond := [.code yJ0_charAt_5068e cJ0_charAt_5068e 2 (some .char), .fieldLink RJ0 9 "java/lang/String" "value" "[B", .methodLink RJ0 492 yJ0_isLatin1_aae02, .instanceMethod yJ0_isLatin1_aae02, .selects RJ0 yJ0_isLatin1_aae02 yJ0_isLatin1_aae02, .methodLink RJ0 495 yJ1_charAt_3b067, .static yJ1_charAt_3b067, .initialized RJ1, .methodLink RJ0 498 yJ2_charAt_3b067, .static yJ2_charAt_3b067]
def wsJ0_charAt_5068e : List Cond := owJ0_charAt_5068e ++ (owJ0_isLatin1_aae02 ++ (owJ1_charAt_3b067 ++ (owJ0_checkIndex_df160 ++ (owJ3_checkIndex_8e157 ++ (owJ2_charAt_3b067 ++ (owJ2_checkIndex_2214a ++ (owJ2_length_9d52b ++ (owJ2_getChar_3b067 ++ []))))))))
theorem gdJ0_charAt_5068e : (wsJ0_charAt_5068e).all goodWord = true := by decide +kernel
def owX3_isNamed : List Cond := [.code yX3_isNamed cX3_isNamed 3 (some .boolean), .fieldLink RX3 44 "TwoReels$TextReader" "kind" "I", .fieldLink RX3 29 "TwoReels$TextReader" "next" "I", .fieldLink RX3 73 "TwoReels$TextReader" "start" "I", .methodLink RX3 89 yJ0_length_8abf5, .instanceMethod yJ0_length_8abf5, .selects RJ0 yJ0_length_8abf5 yJ0_length_8abf5, .methodLink RX3 70 yX3_letterAt, .instanceMethod yX3_letterAt, .selects RX3 yX3_letterAt yX3_letterAt, .initialized RX3, .methodLink RX3 95 yJ0_charAt_5068e, .instanceMethod yJ0_charAt_5068e, .selects RJ0 yJ0_charAt_5068e yJ0_charAt_5068e]
def wsX3_isNamed : List Cond := owX3_isNamed ++ (wsX30 ++ (owJ0_length_8abf5 ++ (owJ0_coder_7d493 ++ (owX3_letterAt ++ (owJ0_charAt_5068e ++ (owJ0_isLatin1_aae02 ++ (owJ1_charAt_3b067 ++ (owJ0_checkIndex_df160 ++ (owJ3_checkIndex_8e157 ++ (owJ2_charAt_3b067 ++ (owJ2_checkIndex_2214a ++ (owJ2_length_9d52b ++ (owJ2_getChar_3b067 ++ [])))))))))))))
theorem gdX3_isNamed : (wsX3_isNamed).all goodWord = true := by decide +kernel
def owX3_ruleNamed : List Cond := [.code yX3_ruleNamed cX3_ruleNamed 1 (some .int), .methodLink RX3 100 yX3_isNamed, .instanceMethod yX3_isNamed, .selects RX3 yX3_isNamed yX3_isNamed]
def wsX3_ruleNamed : List Cond := owX3_ruleNamed ++ (wsX30 ++ (owX3_isNamed ++ (owJ0_length_8abf5 ++ (owJ0_coder_7d493 ++ (owX3_letterAt ++ (owJ0_charAt_5068e ++ (owJ0_isLatin1_aae02 ++ (owJ1_charAt_3b067 ++ (owJ0_checkIndex_df160 ++ (owJ3_checkIndex_8e157 ++ (owJ2_charAt_3b067 ++ (owJ2_checkIndex_2214a ++ (owJ2_length_9d52b ++ (owJ2_getChar_3b067 ++ []))))))))))))))
theorem gdX3_ruleNamed : (wsX3_ruleNamed).all goodWord = true := by decide +kernel
def owX3_isNumberWithin : List Cond := [.code yX3_isNumberWithin cX3_isNumberWithin 3 (some .boolean), .fieldLink RX3 44 "TwoReels$TextReader" "kind" "I", .fieldLink RX3 73 "TwoReels$TextReader" "start" "I", .fieldLink RX3 86 "TwoReels$TextReader" "value" "I", .methodLink RX3 66 yX3_refuse, .instanceMethod yX3_refuse, .selects RX3 yX3_refuse yX3_refuse, .initialized RX3, .static yX4_isBetween, .initialized RX4]
def wsX3_isNumberWithin : List Cond := owX3_isNumberWithin ++ (wsX30 ++ (owX3_refuse ++ (owX4_isBetween ++ [])))
theorem gdX3_isNumberWithin : (wsX3_isNumberWithin).all goodWord = true := by decide +kernel
def owX3_takeRule : List Cond := [.code yX3_takeRule cX3_takeRule 2 none, .fieldLink RX3 32 "TwoReels$TextReader" "toldRules" "I", .fieldLink RX3 18 "TwoReels$TextReader" "draft" "LTwoReels$Tape;", .fieldLink RX3 155 "TwoReels$Tape" "rules" "[I", .methodLink RX3 41 yX3_readToken, .instanceMethod yX3_readToken, .selects RX3 yX3_readToken yX3_readToken, .static yX4_cell, .methodLink RX3 151 yX3_isNumberWithin, .instanceMethod yX3_isNumberWithin, .selects RX3 yX3_isNumberWithin yX3_isNumberWithin, .static yX4_setCell]
def wsX3_takeRule : List Cond := owX3_takeRule ++ (wsX30 ++ (wsX20 ++ (owX3_refuse ++ (owX3_readToken ++ (owX3_letterAt ++ (owX3_isSmallLetter ++ (owX3_isFigure ++ (owX3_readNumber ++ (owX4_cell ++ (owX3_isNumberWithin ++ (owX4_isBetween ++ (owX4_setCell ++ []))))))))))))
theorem gdX3_takeRule : (wsX3_takeRule).all goodWord = true := by decide +kernel
def owX3_hasRoomForBlock : List Cond := [.code yX3_hasRoomForBlock cX3_hasRoomForBlock 1 (some .boolean), .fieldLink RX3 18 "TwoReels$TextReader" "draft" "LTwoReels$Tape;", .fieldLink RX3 56 "TwoReels$Tape" "blockCount" "I", .fieldLink RX3 73 "TwoReels$TextReader" "start" "I", .methodLink RX3 66 yX3_refuse, .instanceMethod yX3_refuse, .selects RX3 yX3_refuse yX3_refuse, .initialized RX3]
def wsX3_hasRoomForBlock : List Cond := owX3_hasRoomForBlock ++ (wsX30 ++ (wsX20 ++ (owX3_refuse ++ [])))
theorem gdX3_hasRoomForBlock : (wsX3_hasRoomForBlock).all goodWord = true := by decide +kernel
def owX3_takeBlock : List Cond := [.code yX3_takeBlock cX3_takeBlock 2 none, .fieldLink RX3 53 "TwoReels$Tape" "typedCount" "I", .methodLink RX3 162 yX3_hasRoomForBlock, .instanceMethod yX3_hasRoomForBlock, .selects RX3 yX3_hasRoomForBlock yX3_hasRoomForBlock, .methodLink RX3 41 yX3_readToken, .instanceMethod yX3_readToken, .selects RX3 yX3_readToken yX3_readToken, .methodLink RX3 151 yX3_isNumberWithin, .instanceMethod yX3_isNumberWithin, .selects RX3 yX3_isNumberWithin yX3_isNumberWithin, .methodLink RX3 166 yX2_typeOne, .instanceMethod yX2_typeOne, .selects RX2 yX2_typeOne yX2_typeOne, .methodLink RX3 169 yX2_putBlock, .instanceMethod yX2_putBlock, .selects RX2 yX2_putBlock yX2_putBlock]
def wsX3_takeBlock : List Cond := owX3_takeBlock ++ (wsX30 ++ (wsX20 ++ (owX3_hasRoomForBlock ++ (owX3_refuse ++ (owX3_readToken ++ (owX3_letterAt ++ (owX3_isSmallLetter ++ (owX3_isFigure ++ (owX3_readNumber ++ (owX3_isNumberWithin ++ (owX4_isBetween ++ (owX2_typeOne ++ (owX4_setCell ++ (owX2_putBlock ++ (owX4_cell ++ (owJ6_bitCount_0f7a4 ++ (owX2_setColumn ++ [])))))))))))))))))
theorem gdX3_takeBlock : (wsX3_takeBlock).all goodWord = true := by decide +kernel
def owX3_takeMark : List Cond := [.code yX3_takeMark cX3_takeMark 1 none, .methodLink RX3 162 yX3_hasRoomForBlock, .instanceMethod yX3_hasRoomForBlock, .selects RX3 yX3_hasRoomForBlock yX3_hasRoomForBlock, .methodLink RX3 169 yX2_putBlock, .instanceMethod yX2_putBlock, .selects RX2 yX2_putBlock yX2_putBlock, .methodLink RX3 41 yX3_readToken, .instanceMethod yX3_readToken, .selects RX3 yX3_readToken yX3_readToken]
def wsX3_takeMark : List Cond := owX3_takeMark ++ (wsX30 ++ (wsX20 ++ (owX3_hasRoomForBlock ++ (owX3_refuse ++ (owX2_putBlock ++ (owX4_setCell ++ (owX4_cell ++ (owJ6_bitCount_0f7a4 ++ (owX2_setColumn ++ (owX3_readToken ++ (owX3_letterAt ++ (owX3_isSmallLetter ++ (owX3_isFigure ++ (owX3_readNumber ++ []))))))))))))))
theorem gdX3_takeMark : (wsX3_takeMark).all goodWord = true := by decide +kernel
def owX3_takeSign : List Cond := [.code yX3_takeSign cX3_takeSign 1 none, .methodLink RX3 41 yX3_readToken, .instanceMethod yX3_readToken, .selects RX3 yX3_readToken yX3_readToken]
def wsX3_takeSign : List Cond := owX3_takeSign ++ (wsX30 ++ (owX3_readToken ++ (owX3_letterAt ++ (owX3_isSmallLetter ++ (owX3_isFigure ++ (owX3_readNumber ++ (owX3_refuse ++ [])))))))
theorem gdX3_takeSign : (wsX3_takeSign).all goodWord = true := by decide +kernel
def owX3_takeLine : List Cond := [.code yX3_takeLine cX3_takeLine 2 none, .methodLink RX3 120 yX3_ruleNamed, .instanceMethod yX3_ruleNamed, .selects RX3 yX3_ruleNamed yX3_ruleNamed, .methodLink RX3 123 yX3_takeRule, .instanceMethod yX3_takeRule, .selects RX3 yX3_takeRule yX3_takeRule, .methodLink RX3 129 yX3_takeBlock, .instanceMethod yX3_takeBlock, .selects RX3 yX3_takeBlock yX3_takeBlock, .methodLink RX3 134 yX3_takeMark, .instanceMethod yX3_takeMark, .selects RX3 yX3_takeMark yX3_takeMark, .methodLink RX3 137 yX3_takeSign, .instanceMethod yX3_takeSign, .selects RX3 yX3_takeSign yX3_takeSign]
def wsX3_takeLine : List Cond := owX3_takeLine ++ (wsX30 ++ (wsX20 ++ (owX3_ruleNamed ++ (owX3_isNamed ++ (owJ0_length_8abf5 ++ (owJ0_coder_7d493 ++ (owX3_letterAt ++ (owJ0_charAt_5068e ++ (owJ0_isLatin1_aae02 ++ (owJ1_charAt_3b067 ++ (owJ0_checkIndex_df160 ++ (owJ3_checkIndex_8e157 ++ (owJ2_charAt_3b067 ++ (owJ2_checkIndex_2214a ++ (owJ2_length_9d52b ++ (owJ2_getChar_3b067 ++ (owX3_takeRule ++ (owX3_refuse ++ (owX3_readToken ++ (owX3_isSmallLetter ++ (owX3_isFigure ++ (owX3_readNumber ++ (owX4_cell ++ (owX3_isNumberWithin ++ (owX4_isBetween ++ (owX4_setCell ++ (owX3_takeBlock ++ (owX3_hasRoomForBlock ++ (owX2_typeOne ++ (owX2_putBlock ++ (owJ6_bitCount_0f7a4 ++ (owX2_setColumn ++ (owX3_takeMark ++ (owX3_takeSign ++ []))))))))))))))))))))))))))))))))))
theorem gdX3_takeLine : (wsX3_takeLine).all goodWord = true := by decide +kernel
def owX3_takeAll : List Cond := [.code yX3_takeAll cX3_takeAll 2 (some .int), .methodLink RX3 26 yX2_reset, .instanceMethod yX2_reset, .selects RX2 yX2_reset yX2_reset, .methodLink RX3 47 yX3_takeLine, .instanceMethod yX3_takeLine, .selects RX3 yX3_takeLine yX3_takeLine, .methodLink RX3 50 yX2_layOutBlocks, .instanceMethod yX2_layOutBlocks, .selects RX2 yX2_layOutBlocks yX2_layOutBlocks, .methodLink RX3 59 yX2_endOf, .methodLink RX3 63 yX2_ruled]
def wsX3_takeAll : List Cond := owX3_takeAll ++ (wsX30 ++ (wsX20 ++ (owX2_reset ++ (owX4_copyRow ++ (owX3_readToken ++ (owX3_letterAt ++ (owX3_isSmallLetter ++ (owX3_isFigure ++ (owX3_readNumber ++ (owX3_refuse ++ (owX3_takeLine ++ (owX3_ruleNamed ++ (owX3_isNamed ++ (owJ0_length_8abf5 ++ (owJ0_coder_7d493 ++ (owJ0_charAt_5068e ++ (owJ0_isLatin1_aae02 ++ (owJ1_charAt_3b067 ++ (owJ0_checkIndex_df160 ++ (owJ3_checkIndex_8e157 ++ (owJ2_charAt_3b067 ++ (owJ2_checkIndex_2214a ++ (owJ2_length_9d52b ++ (owJ2_getChar_3b067 ++ (owX3_takeRule ++ (owX4_cell ++ (owX3_isNumberWithin ++ (owX4_isBetween ++ (owX4_setCell ++ (owX3_takeBlock ++ (owX3_hasRoomForBlock ++ (owX2_typeOne ++ (owX2_putBlock ++ (owJ6_bitCount_0f7a4 ++ (owX2_setColumn ++ (owX3_takeMark ++ (owX3_takeSign ++ (owX2_layOutBlocks ++ (owX2_beginningAt ++ (owX2_endOf ++ (owX2_hasBlock ++ (owX2_beginOf ++ (owX2_sizeOf ++ (owX2_longWith ++ (owX2_ruled ++ (owX4_dividedUp ++ []))))))))))))))))))))))))))))))))))))))))))))))
theorem gdX3_takeAll : (wsX3_takeAll).all goodWord = true := by decide +kernel
def owX4_init : List Cond := [.code yX4_init cX4_init 1 none, .methodLink RX4 1 objectInit, .classLink RX4 7 RX2, .fieldLink RX4 10 "TwoReels" "tape" "LTwoReels$Tape;", .classLink RX4 16 RX3, .instantiable RX3 10, .initialized RX3, .fieldLink RX4 19 "TwoReels" "textReader" "LTwoReels$TextReader;", .classLink RX4 23 RX0, .instantiable RX0 6, .initialized RX0, .fieldLink RX4 26 "TwoReels" "route" "LTwoReels$Route;", .fieldLink RX4 30 "TwoReels" "imageZero" "LTwoReels$Tape;", .fieldLink RX4 33 "TwoReels" "imageOne" "LTwoReels$Tape;", .classLink RX4 36 RX1, .instantiable RX1 3, .initialized RX1, .fieldLink RX4 39 "TwoReels" "sheetZero" "LTwoReels$Sheet;", .fieldLink RX4 43 "TwoReels" "sheetOne" "LTwoReels$Sheet;", .fieldLink RX4 46 "TwoReels" "sheetTwo" "LTwoReels$Sheet;", .fieldLink RX4 49 "TwoReels" "sheetThree" "LTwoReels$Sheet;", .fieldLink RX4 52 "TwoReels" "textFault" "I", .fieldLink RX4 56 "TwoReels" "readFault" "I", .fieldLink RX4 59 "TwoReels" "imagesKept" "I", .methodLink RX4 9 yX2_init, .instanceMethod yX3_init, .instanceMethod yX0_init, .instanceMethod yX1_init]
def wsX4_init : List Cond := owX4_init ++ (wsX20 ++ (wsX40 ++ (wsX30 ++ (wsX00 ++ (wsX10 ++ (owX2_init ++ (owX2_reset ++ (owX4_copyRow ++ (owX3_init ++ (owX0_init ++ (owX1_init ++ [])))))))))))
theorem gdX4_init : (wsX4_init).all goodWord = true := by decide +kernel
def owX4_feed : List Cond := [.code yX4_feed cX4_feed 4 (some .int), .fieldLink RX4 19 "TwoReels" "textReader" "LTwoReels$TextReader;", .fieldLink RX4 62 "TwoReels$TextReader" "letterCount" "I", .methodLink RX4 65 yX3_addLetter, .instanceMethod yX3_addLetter, .selects RX3 yX3_addLetter yX3_addLetter, .initialized RX3]
def wsX4_feed : List Cond := owX4_feed ++ (wsX40 ++ (wsX30 ++ (owX3_addLetter ++ [])))
theorem gdX4_feed : (wsX4_feed).all goodWord = true := by decide +kernel
def owX4_end : List Cond := [.code yX4_end cX4_end 3 (some .int), .fieldLink RX4 19 "TwoReels" "textReader" "LTwoReels$TextReader;", .fieldLink RX4 62 "TwoReels$TextReader" "letterCount" "I", .methodLink RX4 69 yX4_isBetween, .static yX4_isBetween, .initialized RX4]
def wsX4_end : List Cond := owX4_end ++ (wsX40 ++ (wsX30 ++ (owX4_isBetween ++ [])))
theorem gdX4_end : (wsX4_end).all goodWord = true := by decide +kernel
def owX4_text : List Cond := [.code yX4_text cX4_text 2 (some .int), .fieldLink RX4 19 "TwoReels" "textReader" "LTwoReels$TextReader;", .fieldLink RX4 62 "TwoReels$TextReader" "letterCount" "I", .fieldLink RX4 77 "TwoReels$TextReader" "faultCode" "I", .fieldLink RX4 52 "TwoReels" "textFault" "I", .fieldLink RX4 80 "TwoReels$TextReader" "faultPlace" "I", .fieldLink RX4 10 "TwoReels" "tape" "LTwoReels$Tape;", .fieldLink RX4 83 "TwoReels$TextReader" "draft" "LTwoReels$Tape;", .fieldLink RX4 59 "TwoReels" "imagesKept" "I", .methodLink RX4 73 yX3_takeAll, .instanceMethod yX3_takeAll, .selects RX3 yX3_takeAll yX3_takeAll, .methodLink RX4 86 yX2_becomes, .instanceMethod yX2_becomes, .selects RX2 yX2_becomes yX2_becomes]
def wsX4_text : List Cond := owX4_text ++ (wsX40 ++ (wsX30 ++ (wsX20 ++ (owX3_takeAll ++ (owX2_reset ++ (owX4_copyRow ++ (owX3_readToken ++ (owX3_letterAt ++ (owX3_isSmallLetter ++ (owX3_isFigure ++ (owX3_readNumber ++ (owX3_refuse ++ (owX3_takeLine ++ (owX3_ruleNamed ++ (owX3_isNamed ++ (owJ0_length_8abf5 ++ (owJ0_coder_7d493 ++ (owJ0_charAt_5068e ++ (owJ0_isLatin1_aae02 ++ (owJ1_charAt_3b067 ++ (owJ0_checkIndex_df160 ++ (owJ3_checkIndex_8e157 ++ (owJ2_charAt_3b067 ++ (owJ2_checkIndex_2214a ++ (owJ2_length_9d52b ++ (owJ2_getChar_3b067 ++ (owX3_takeRule ++ (owX4_cell ++ (owX3_isNumberWithin ++ (owX4_isBetween ++ (owX4_setCell ++ (owX3_takeBlock ++ (owX3_hasRoomForBlock ++ (owX2_typeOne ++ (owX2_putBlock ++ (owJ6_bitCount_0f7a4 ++ (owX2_setColumn ++ (owX3_takeMark ++ (owX3_takeSign ++ (owX2_layOutBlocks ++ (owX2_beginningAt ++ (owX2_endOf ++ (owX2_hasBlock ++ (owX2_beginOf ++ (owX2_sizeOf ++ (owX2_longWith ++ (owX2_ruled ++ (owX4_dividedUp ++ (owX2_becomes ++ [])))))))))))))))))))))))))))))))))))))))))))))))))
theorem gdX4_text : (wsX4_text).all goodWord = true := by decide +kernel
def owX4_fault : List Cond := [.code yX4_fault cX4_fault 1 (some .int), .fieldLink RX4 52 "TwoReels" "textFault" "I"]
def wsX4_fault : List Cond := owX4_fault ++ (wsX40 ++ [])
theorem gdX4_fault : (wsX4_fault).all goodWord = true := by decide +kernel
def owX4_rule : List Cond := [.code yX4_rule cX4_rule 2 (some .int), .fieldLink RX4 10 "TwoReels" "tape" "LTwoReels$Tape;", .methodLink RX4 69 yX4_isBetween, .static yX4_isBetween, .initialized RX4, .methodLink RX4 90 yX2_ruled, .instanceMethod yX2_ruled, .selects RX2 yX2_ruled yX2_ruled, .initialized RX2]
def wsX4_rule : List Cond := owX4_rule ++ (wsX40 ++ (wsX20 ++ (owX4_isBetween ++ (owX2_ruled ++ []))))
theorem gdX4_rule : (wsX4_rule).all goodWord = true := by decide +kernel
def owX4_turns : List Cond := [.code yX4_turns cX4_turns 3 (some .int), .fieldLink RX4 10 "TwoReels" "tape" "LTwoReels$Tape;", .methodLink RX4 94 yX2_hasPlace, .instanceMethod yX2_hasPlace, .selects RX2 yX2_hasPlace yX2_hasPlace, .methodLink RX4 98 yX2_leftTurns, .instanceMethod yX2_leftTurns, .selects RX2 yX2_leftTurns yX2_leftTurns, .methodLink RX4 101 yX2_rightTurns, .instanceMethod yX2_rightTurns, .selects RX2 yX2_rightTurns yX2_rightTurns]
def wsX4_turns : List Cond := owX4_turns ++ (wsX40 ++ (wsX20 ++ (owX2_hasPlace ++ (owX2_ruled ++ (owX4_isBetween ++ (owX2_leftTurns ++ (owX2_turnsOf ++ (owX4_lengthOfTurns ++ (owX2_rightTurns ++ [])))))))))
theorem gdX4_turns : (wsX4_turns).all goodWord = true := by decide +kernel
def owX4_shows : List Cond := [.code yX4_shows cX4_shows 3 (some .int), .fieldLink RX4 10 "TwoReels" "tape" "LTwoReels$Tape;", .methodLink RX4 69 yX4_isBetween, .methodLink RX4 104 yX2_firstShowing, .methodLink RX4 107 yX2_lastShowing, .instanceMethod yX2_lastShowing, .selects RX2 yX2_lastShowing yX2_lastShowing]
def wsX4_shows : List Cond := owX4_shows ++ (wsX40 ++ (wsX20 ++ (owX4_isBetween ++ (owX2_firstShowing ++ (owX2_ruled ++ (owX4_lengthOfTurns ++ (owX2_hasPlace ++ (owX2_lastShowing ++ []))))))))
theorem gdX4_shows : (wsX4_shows).all goodWord = true := by decide +kernel
def owX4_meet : List Cond := [.code yX4_meet cX4_meet 1 (some .int), .fieldLink RX4 10 "TwoReels" "tape" "LTwoReels$Tape;", .methodLink RX4 110 yX2_meetingPlace, .instanceMethod yX2_meetingPlace, .selects RX2 yX2_meetingPlace yX2_meetingPlace]
def wsX4_meet : List Cond := owX4_meet ++ (wsX40 ++ (wsX20 ++ (owX2_meetingPlace ++ (owX2_ruled ++ (owX2_rightTurns ++ (owX2_turnsOf ++ (owX4_lengthOfTurns ++ (owX2_leftTurns ++ []))))))))
theorem gdX4_meet : (wsX4_meet).all goodWord = true := by decide +kernel
def owX4_ticks : List Cond := [.code yX4_ticks cX4_ticks 4 (some .int), .fieldLink RX4 10 "TwoReels" "tape" "LTwoReels$Tape;", .methodLink RX4 94 yX2_hasPlace, .instanceMethod yX2_hasPlace, .selects RX2 yX2_hasPlace yX2_hasPlace, .methodLink RX4 113 yX2_played, .methodLink RX4 117 yX2_wound, .methodLink RX4 120 yX2_sooner, .instanceMethod yX2_sooner, .selects RX2 yX2_sooner yX2_sooner]
def wsX4_ticks : List Cond := owX4_ticks ++ (wsX40 ++ (wsX20 ++ (owX2_hasPlace ++ (owX2_ruled ++ (owX4_isBetween ++ (owX2_played ++ (owX2_playedThrough ++ (owX2_wound ++ (owX2_turnsOf ++ (owX4_lengthOfTurns ++ (owX2_sooner ++ [])))))))))))
theorem gdX4_ticks : (wsX4_ticks).all goodWord = true := by decide +kernel
def owX4_go : List Cond := [.code yX4_go cX4_go 2 (some .int), .fieldLink RX4 10 "TwoReels" "tape" "LTwoReels$Tape;", .methodLink RX4 94 yX2_hasPlace, .instanceMethod yX2_hasPlace, .selects RX2 yX2_hasPlace yX2_hasPlace, .methodLink RX4 123 yX2_goTo, .instanceMethod yX2_goTo, .selects RX2 yX2_goTo yX2_goTo]
def wsX4_go : List Cond := owX4_go ++ (wsX40 ++ (wsX20 ++ (owX2_hasPlace ++ (owX2_ruled ++ (owX4_isBetween ++ (owX2_goTo ++ (owX2_sooner ++ (owX2_played ++ (owX2_playedThrough ++ (owX2_wound ++ (owX2_turnsOf ++ (owX4_lengthOfTurns ++ []))))))))))))
theorem gdX4_go : (wsX4_go).all goodWord = true := by decide +kernel
def owX4_now : List Cond := [.code yX4_now cX4_now 2 (some .int), .fieldLink RX4 10 "TwoReels" "tape" "LTwoReels$Tape;", .fieldLink RX4 126 "TwoReels$Tape" "head" "I", .fieldLink RX4 129 "TwoReels$Tape" "ticksSoFar" "I", .fieldLink RX4 132 "TwoReels$Tape" "deadTrack" "I", .fieldLink RX4 135 "TwoReels$Tape" "typedCount" "I", .fieldLink RX4 138 "TwoReels$Tape" "blockCount" "I", .methodLink RX4 101 yX2_rightTurns, .instanceMethod yX2_rightTurns, .selects RX2 yX2_rightTurns yX2_rightTurns, .methodLink RX4 90 yX2_ruled, .methodLink RX4 141 yX2_endOf, .instanceMethod yX2_endOf, .selects RX2 yX2_endOf yX2_endOf]
def wsX4_now : List Cond := owX4_now ++ (wsX40 ++ (wsX20 ++ (owX2_rightTurns ++ (owX2_turnsOf ++ (owX2_ruled ++ (owX4_lengthOfTurns ++ (owX2_endOf ++ (owX2_hasBlock ++ (owX4_isBetween ++ (owX2_beginOf ++ (owX4_cell ++ (owX2_sizeOf ++ (owX2_longWith ++ (owX4_dividedUp ++ []))))))))))))))
theorem gdX4_now : (wsX4_now).all goodWord = true := by decide +kernel
def owX4_within : List Cond := [.code yX4_within cX4_within 3 (some .int), .constant RX4 144 (999999), .fieldLink RX4 10 "TwoReels" "tape" "LTwoReels$Tape;", .fieldLink RX4 126 "TwoReels$Tape" "head" "I", .methodLink RX4 69 yX4_isBetween, .static yX4_isBetween, .methodLink RX4 145 yX2_reach, .instanceMethod yX2_reach, .selects RX2 yX2_reach yX2_reach, .methodLink RX4 90 yX2_ruled]
def wsX4_within : List Cond := owX4_within ++ (wsX40 ++ (wsX20 ++ (owX4_isBetween ++ (owX2_reach ++ (owX2_sooner ++ (owX2_played ++ (owX2_ruled ++ (owX2_playedThrough ++ (owX2_wound ++ (owX2_turnsOf ++ (owX4_lengthOfTurns ++ [])))))))))))
theorem gdX4_within : (wsX4_within).all goodWord = true := by decide +kernel
def owX4_block : List Cond := [.code yX4_block cX4_block 3 (some .int), .fieldLink RX4 10 "TwoReels" "tape" "LTwoReels$Tape;", .methodLink RX4 149 yX2_hasBlock, .methodLink RX4 152 yX2_beginOf, .methodLink RX4 155 yX2_longOf, .instanceMethod yX2_longOf, .selects RX2 yX2_longOf yX2_longOf, .methodLink RX4 158 yX2_sizeOf, .methodLink RX4 161 yX2_isMark, .instanceMethod yX2_isMark, .selects RX2 yX2_isMark yX2_isMark, .methodLink RX4 164 yX2_columnOf, .instanceMethod yX2_columnOf, .selects RX2 yX2_columnOf yX2_columnOf, .methodLink RX4 141 yX2_endOf, .instanceMethod yX2_endOf, .selects RX2 yX2_endOf yX2_endOf]
def wsX4_block : List Cond := owX4_block ++ (wsX40 ++ (wsX20 ++ (owX2_hasBlock ++ (owX4_isBetween ++ (owX2_beginOf ++ (owX4_cell ++ (owX2_longOf ++ (owX2_sizeOf ++ (owX2_longWith ++ (owX2_ruled ++ (owX4_dividedUp ++ (owX2_isMark ++ (owX2_columnOf ++ (owX2_endOf ++ []))))))))))))))
theorem gdX4_block : (wsX4_block).all goodWord = true := by decide +kernel
def owX4_blockAt : List Cond := [.code yX4_blockAt cX4_blockAt 2 (some .int), .fieldLink RX4 10 "TwoReels" "tape" "LTwoReels$Tape;", .methodLink RX4 94 yX2_hasPlace, .instanceMethod yX2_hasPlace, .selects RX2 yX2_hasPlace yX2_hasPlace, .methodLink RX4 167 yX2_blockWith, .instanceMethod yX2_blockWith, .selects RX2 yX2_blockWith yX2_blockWith]
def wsX4_blockAt : List Cond := owX4_blockAt ++ (wsX40 ++ (wsX20 ++ (owX2_hasPlace ++ (owX2_ruled ++ (owX4_isBetween ++ (owX2_blockWith ++ (owX2_beginOf ++ (owX4_cell ++ (owX2_endOf ++ (owX2_hasBlock ++ (owX2_sizeOf ++ (owX2_longWith ++ (owX4_dividedUp ++ [])))))))))))))
theorem gdX4_blockAt : (wsX4_blockAt).all goodWord = true := by decide +kernel
def owX4_type : List Cond := [.code yX4_type cX4_type 2 (some .int), .fieldLink RX4 10 "TwoReels" "tape" "LTwoReels$Tape;", .fieldLink RX4 135 "TwoReels$Tape" "typedCount" "I", .methodLink RX4 69 yX4_isBetween, .static yX4_isBetween, .methodLink RX4 170 yX2_typeOne, .instanceMethod yX2_typeOne, .selects RX2 yX2_typeOne yX2_typeOne, .initialized RX2]
def wsX4_type : List Cond := owX4_type ++ (wsX40 ++ (wsX20 ++ (owX4_isBetween ++ (owX2_typeOne ++ (owX4_setCell ++ [])))))
theorem gdX4_type : (wsX4_type).all goodWord = true := by decide +kernel
def owX4_write : List Cond := [.code yX4_write cX4_write 3 (some .int), .fieldLink RX4 10 "TwoReels" "tape" "LTwoReels$Tape;", .fieldLink RX4 138 "TwoReels$Tape" "blockCount" "I", .fieldLink RX4 135 "TwoReels$Tape" "typedCount" "I", .methodLink RX4 69 yX4_isBetween, .methodLink RX4 173 yX2_hasRoomAt, .instanceMethod yX2_hasRoomAt, .selects RX2 yX2_hasRoomAt yX2_hasRoomAt, .methodLink RX4 177 yX2_writeAt, .instanceMethod yX2_writeAt, .selects RX2 yX2_writeAt yX2_writeAt]
def wsX4_write : List Cond := owX4_write ++ (wsX40 ++ (wsX20 ++ (owX4_isBetween ++ (owX2_hasRoomAt ++ (owX2_beginningAt ++ (owX2_endOf ++ (owX2_hasBlock ++ (owX2_beginOf ++ (owX4_cell ++ (owX2_sizeOf ++ (owX2_longWith ++ (owX2_ruled ++ (owX4_dividedUp ++ (owX2_writeAt ++ (owX2_sooner ++ (owX2_played ++ (owX2_playedThrough ++ (owX2_wound ++ (owX2_turnsOf ++ (owX4_lengthOfTurns ++ (owX2_putBlock ++ (owX4_setCell ++ (owJ6_bitCount_0f7a4 ++ (owX2_setColumn ++ []))))))))))))))))))))))))
theorem gdX4_write : (wsX4_write).all goodWord = true := by decide +kernel
def owX4_mark : List Cond := [.code yX4_mark cX4_mark 2 (some .int), .fieldLink RX4 10 "TwoReels" "tape" "LTwoReels$Tape;", .fieldLink RX4 138 "TwoReels$Tape" "blockCount" "I", .methodLink RX4 69 yX4_isBetween, .methodLink RX4 173 yX2_hasRoomAt, .instanceMethod yX2_hasRoomAt, .selects RX2 yX2_hasRoomAt yX2_hasRoomAt, .methodLink RX4 177 yX2_writeAt, .instanceMethod yX2_writeAt, .selects RX2 yX2_writeAt yX2_writeAt]
def wsX4_mark : List Cond := owX4_mark ++ (wsX40 ++ (wsX20 ++ (owX4_isBetween ++ (owX2_hasRoomAt ++ (owX2_beginningAt ++ (owX2_endOf ++ (owX2_hasBlock ++ (owX2_beginOf ++ (owX4_cell ++ (owX2_sizeOf ++ (owX2_longWith ++ (owX2_ruled ++ (owX4_dividedUp ++ (owX2_writeAt ++ (owX2_sooner ++ (owX2_played ++ (owX2_playedThrough ++ (owX2_wound ++ (owX2_turnsOf ++ (owX4_lengthOfTurns ++ (owX2_putBlock ++ (owX4_setCell ++ (owJ6_bitCount_0f7a4 ++ (owX2_setColumn ++ []))))))))))))))))))))))))
theorem gdX4_mark : (wsX4_mark).all goodWord = true := by decide +kernel
def owX4_spoil : List Cond := [.code yX4_spoil cX4_spoil 4 (some .int), .fieldLink RX4 10 "TwoReels" "tape" "LTwoReels$Tape;", .methodLink RX4 180 yX2_hasColumn, .instanceMethod yX2_hasColumn, .selects RX2 yX2_hasColumn yX2_hasColumn, .methodLink RX4 69 yX4_isBetween, .methodLink RX4 183 yX2_turnBit, .instanceMethod yX2_turnBit, .selects RX2 yX2_turnBit yX2_turnBit]
def wsX4_spoil : List Cond := owX4_spoil ++ (wsX40 ++ (wsX20 ++ (owX2_hasColumn ++ (owX2_hasBlock ++ (owX4_isBetween ++ (owX2_isMark ++ (owX2_sizeOf ++ (owX4_cell ++ (owX2_turnBit ++ (owX2_columnOf ++ (owX2_setColumn ++ (owX4_setCell ++ []))))))))))))
theorem gdX4_spoil : (wsX4_spoil).all goodWord = true := by decide +kernel
def owX4_dead : List Cond := [.code yX4_dead cX4_dead 3 (some .int), .fieldLink RX4 10 "TwoReels" "tape" "LTwoReels$Tape;", .fieldLink RX4 132 "TwoReels$Tape" "deadTrack" "I", .methodLink RX4 69 yX4_isBetween, .static yX4_isBetween, .initialized RX4]
def wsX4_dead : List Cond := owX4_dead ++ (wsX40 ++ (wsX20 ++ (owX4_isBetween ++ [])))
theorem gdX4_dead : (wsX4_dead).all goodWord = true := by decide +kernel
def owX4_check : List Cond := [.code yX4_check cX4_check 2 (some .int), .fieldLink RX4 10 "TwoReels" "tape" "LTwoReels$Tape;", .fieldLink RX4 132 "TwoReels$Tape" "deadTrack" "I", .methodLink RX4 149 yX2_hasBlock, .instanceMethod yX2_hasBlock, .selects RX2 yX2_hasBlock yX2_hasBlock, .methodLink RX4 186 yX2_readingOf, .instanceMethod yX2_readingOf, .selects RX2 yX2_readingOf yX2_readingOf]
def wsX4_check : List Cond := owX4_check ++ (wsX40 ++ (wsX20 ++ (owX2_hasBlock ++ (owX4_isBetween ++ (owX2_readingOf ++ (owX2_wrongAlongCount ++ (owX2_sizeOf ++ (owX4_cell ++ (owX2_isWrongAlong ++ (owX2_columnOf ++ (owJ6_bitCount_0f7a4 ++ (owX2_wrongAcross ++ []))))))))))))
theorem gdX4_check : (wsX4_check).all goodWord = true := by decide +kernel
def owX4_got : List Cond := [.code yX4_got cX4_got 3 (some .int), .fieldLink RX4 10 "TwoReels" "tape" "LTwoReels$Tape;", .fieldLink RX4 132 "TwoReels$Tape" "deadTrack" "I", .methodLink RX4 149 yX2_hasBlock, .instanceMethod yX2_hasBlock, .selects RX2 yX2_hasBlock yX2_hasBlock, .methodLink RX4 158 yX2_sizeOf, .methodLink RX4 69 yX4_isBetween, .methodLink RX4 186 yX2_readingOf, .instanceMethod yX2_readingOf, .selects RX2 yX2_readingOf yX2_readingOf, .methodLink RX4 189 yX2_byteAsRead, .instanceMethod yX2_byteAsRead, .selects RX2 yX2_byteAsRead yX2_byteAsRead]
def wsX4_got : List Cond := owX4_got ++ (wsX40 ++ (wsX20 ++ (owX2_hasBlock ++ (owX4_isBetween ++ (owX2_sizeOf ++ (owX4_cell ++ (owX2_readingOf ++ (owX2_wrongAlongCount ++ (owX2_isWrongAlong ++ (owX2_columnOf ++ (owJ6_bitCount_0f7a4 ++ (owX2_wrongAcross ++ (owX2_byteAsRead ++ [])))))))))))))
theorem gdX4_got : (wsX4_got).all goodWord = true := by decide +kernel
def owX4_column : List Cond := [.code yX4_column cX4_column 3 (some .int), .fieldLink RX4 10 "TwoReels" "tape" "LTwoReels$Tape;", .methodLink RX4 180 yX2_hasColumn, .instanceMethod yX2_hasColumn, .selects RX2 yX2_hasColumn yX2_hasColumn, .methodLink RX4 164 yX2_columnOf, .instanceMethod yX2_columnOf, .selects RX2 yX2_columnOf yX2_columnOf]
def wsX4_column : List Cond := owX4_column ++ (wsX40 ++ (wsX20 ++ (owX2_hasColumn ++ (owX2_hasBlock ++ (owX4_isBetween ++ (owX2_isMark ++ (owX2_sizeOf ++ (owX4_cell ++ (owX2_columnOf ++ [])))))))))
theorem gdX4_column : (wsX4_column).all goodWord = true := by decide +kernel
def owX4_state : List Cond := [.code yX4_state cX4_state 2 (some .int), .fieldLink RX4 10 "TwoReels" "tape" "LTwoReels$Tape;", .fieldLink RX4 132 "TwoReels$Tape" "deadTrack" "I", .methodLink RX4 192 yX2_lostBlocksBy, .instanceMethod yX2_lostBlocksBy, .selects RX2 yX2_lostBlocksBy yX2_lostBlocksBy, .methodLink RX4 195 yX2_fooledBlocks, .instanceMethod yX2_fooledBlocks, .selects RX2 yX2_fooledBlocks yX2_fooledBlocks, .methodLink RX4 198 yX2_mendedBlocks, .instanceMethod yX2_mendedBlocks, .selects RX2 yX2_mendedBlocks yX2_mendedBlocks]
def wsX4_state : List Cond := owX4_state ++ (wsX40 ++ (wsX20 ++ (owX2_lostBlocksBy ++ (owX2_readingOf ++ (owX2_wrongAlongCount ++ (owX2_sizeOf ++ (owX4_cell ++ (owX2_isWrongAlong ++ (owX2_columnOf ++ (owJ6_bitCount_0f7a4 ++ (owX2_wrongAcross ++ (owX2_fooledBlocks ++ (owX2_isReadAsWritten ++ (owX2_byteAsRead ++ (owX2_originalOf ++ (owX2_mendedBlocks ++ []))))))))))))))))
theorem gdX4_state : (wsX4_state).all goodWord = true := by decide +kernel
def owX4_best : List Cond := [.code yX4_best cX4_best 6 (some .int), .fieldLink RX4 10 "TwoReels" "tape" "LTwoReels$Tape;", .methodLink RX4 69 yX4_isBetween, .static yX4_isBetween, .methodLink RX4 192 yX2_lostBlocksBy, .instanceMethod yX2_lostBlocksBy, .selects RX2 yX2_lostBlocksBy yX2_lostBlocksBy, .methodLink RX4 201 yJ6_bitCount_0f7a4]
def wsX4_best : List Cond := owX4_best ++ (wsX40 ++ (wsX20 ++ (owX4_isBetween ++ (owX2_lostBlocksBy ++ (owX2_readingOf ++ (owX2_wrongAlongCount ++ (owX2_sizeOf ++ (owX4_cell ++ (owX2_isWrongAlong ++ (owX2_columnOf ++ (owJ6_bitCount_0f7a4 ++ (owX2_wrongAcross ++ []))))))))))))
theorem gdX4_best : (wsX4_best).all goodWord = true := by decide +kernel
def owX4_order : List Cond := [.code yX4_order cX4_order 5 (some .int), .fieldLink RX4 10 "TwoReels" "tape" "LTwoReels$Tape;", .fieldLink RX4 26 "TwoReels" "route" "LTwoReels$Route;", .fieldLink RX4 213 "TwoReels$Route" "ticksInAll" "I", .methodLink RX4 206 yX2_hasAllOf, .instanceMethod yX2_hasAllOf, .selects RX2 yX2_hasAllOf yX2_hasAllOf, .methodLink RX4 69 yX4_isBetween, .methodLink RX4 201 yJ6_bitCount_0f7a4, .static yJ6_bitCount_0f7a4, .initialized RJ6, .methodLink RX4 209 yX0_plan, .instanceMethod yX0_plan, .selects RX0 yX0_plan yX0_plan, .methodLink RX4 216 yX0_stopAt, .instanceMethod yX0_stopAt, .selects RX0 yX0_stopAt yX0_stopAt]
def wsX4_order : List Cond := owX4_order ++ (wsX40 ++ (wsX00 ++ (wsX20 ++ (owX2_hasAllOf ++ (owX4_isBetween ++ (owJ6_bitCount_0f7a4 ++ (owX0_plan ++ (owX0_choose ++ (owX4_setCell ++ (owX0_measureHops ++ (owX4_cell ++ (owX2_endOf ++ (owX2_hasBlock ++ (owX2_beginOf ++ (owX2_sizeOf ++ (owX2_longWith ++ (owX2_ruled ++ (owX4_dividedUp ++ (owX2_sooner ++ (owX2_played ++ (owX2_playedThrough ++ (owX2_wound ++ (owX2_turnsOf ++ (owX4_lengthOfTurns ++ (owX2_longOf ++ (owX0_fewestFrom ++ (owX0_ticksBy ++ (owX0_followFirst ++ (owX0_firstOfFewest ++ (owX0_stopAt ++ []))))))))))))))))))))))))))))))
theorem gdX4_order : (wsX4_order).all goodWord = true := by decide +kernel
def owX4_reads : List Cond := [.code yX4_reads cX4_reads 2 (some .int), .fieldLink RX4 10 "TwoReels" "tape" "LTwoReels$Tape;", .fieldLink RX4 26 "TwoReels" "route" "LTwoReels$Route;", .fieldLink RX4 129 "TwoReels$Tape" "ticksSoFar" "I", .fieldLink RX4 213 "TwoReels$Route" "ticksInAll" "I", .fieldLink RX4 219 "TwoReels$Route" "count" "I", .fieldLink RX4 126 "TwoReels$Tape" "head" "I", .methodLink RX4 206 yX2_hasAllOf, .instanceMethod yX2_hasAllOf, .selects RX2 yX2_hasAllOf yX2_hasAllOf, .methodLink RX4 201 yJ6_bitCount_0f7a4, .static yJ6_bitCount_0f7a4, .initialized RJ6, .methodLink RX4 209 yX0_plan, .instanceMethod yX0_plan, .selects RX0 yX0_plan yX0_plan, .methodLink RX4 216 yX0_stopAt, .instanceMethod yX0_stopAt, .selects RX0 yX0_stopAt yX0_stopAt, .methodLink RX4 141 yX2_endOf]
def wsX4_reads : List Cond := owX4_reads ++ (wsX40 ++ (wsX20 ++ (wsX00 ++ (owX2_hasAllOf ++ (owJ6_bitCount_0f7a4 ++ (owX0_plan ++ (owX0_choose ++ (owX4_setCell ++ (owX0_measureHops ++ (owX4_cell ++ (owX2_endOf ++ (owX2_hasBlock ++ (owX4_isBetween ++ (owX2_beginOf ++ (owX2_sizeOf ++ (owX2_longWith ++ (owX2_ruled ++ (owX4_dividedUp ++ (owX2_sooner ++ (owX2_played ++ (owX2_playedThrough ++ (owX2_wound ++ (owX2_turnsOf ++ (owX4_lengthOfTurns ++ (owX2_longOf ++ (owX0_fewestFrom ++ (owX0_ticksBy ++ (owX0_followFirst ++ (owX0_firstOfFewest ++ (owX0_stopAt ++ []))))))))))))))))))))))))))))))
theorem gdX4_reads : (wsX4_reads).all goodWord = true := by decide +kernel
def owX4_cut : List Cond := [.code yX4_cut cX4_cut 3 (some .int), .fieldLink RX4 10 "TwoReels" "tape" "LTwoReels$Tape;", .methodLink RX4 94 yX2_hasPlace, .instanceMethod yX2_hasPlace, .selects RX2 yX2_hasPlace yX2_hasPlace, .methodLink RX4 90 yX2_ruled, .methodLink RX4 222 yX2_cutOut, .instanceMethod yX2_cutOut, .selects RX2 yX2_cutOut yX2_cutOut]
def wsX4_cut : List Cond := owX4_cut ++ (wsX40 ++ (wsX20 ++ (owX2_hasPlace ++ (owX2_ruled ++ (owX4_isBetween ++ (owX2_cutOut ++ (owX2_beginOf ++ (owX4_cell ++ (owX2_endOf ++ (owX2_hasBlock ++ (owX2_sizeOf ++ (owX2_longWith ++ (owX4_dividedUp ++ (owX2_moveBlock ++ (owX4_setCell ++ (owX2_columnOf ++ (owX2_setColumn ++ (owX2_originalOf ++ []))))))))))))))))))
theorem gdX4_cut : (wsX4_cut).all goodWord = true := by decide +kernel
def owX4_holds : List Cond := [.code yX4_holds cX4_holds 2 (some .int), .fieldLink RX4 10 "TwoReels" "tape" "LTwoReels$Tape;", .methodLink RX4 69 yX4_isBetween, .static yX4_isBetween, .methodLink RX4 225 yX2_roomFor, .instanceMethod yX2_roomFor, .selects RX2 yX2_roomFor yX2_roomFor]
def wsX4_holds : List Cond := owX4_holds ++ (wsX40 ++ (wsX20 ++ (owX4_isBetween ++ (owX2_roomFor ++ (owX2_ruled ++ (owX2_longWith ++ (owX4_dividedUp ++ [])))))))
theorem gdX4_holds : (wsX4_holds).all goodWord = true := by decide +kernel
def owX4_most : List Cond := [.code yX4_most cX4_most 6 (some .int), .fieldLink RX4 10 "TwoReels" "tape" "LTwoReels$Tape;", .methodLink RX4 69 yX4_isBetween, .static yX4_isBetween, .methodLink RX4 225 yX2_roomFor, .instanceMethod yX2_roomFor, .selects RX2 yX2_roomFor yX2_roomFor]
def wsX4_most : List Cond := owX4_most ++ (wsX40 ++ (wsX20 ++ (owX4_isBetween ++ (owX2_roomFor ++ (owX2_ruled ++ (owX2_longWith ++ (owX4_dividedUp ++ [])))))))
theorem gdX4_most : (wsX4_most).all goodWord = true := by decide +kernel
def owX4_isStream : List Cond := [.code yX4_isStream cX4_isStream 3 (some .boolean), .methodLink RX4 69 yX4_isBetween, .static yX4_isBetween, .initialized RX4]
def wsX4_isStream : List Cond := owX4_isStream ++ (owX4_isBetween ++ [])
theorem gdX4_isStream : (wsX4_isStream).all goodWord = true := by decide +kernel
def owX4_stream : List Cond := [.code yX4_stream cX4_stream 6 (some .int), .fieldLink RX4 10 "TwoReels" "tape" "LTwoReels$Tape;", .methodLink RX4 228 yX4_isStream, .static yX4_isStream, .methodLink RX4 231 yX2_streamed, .instanceMethod yX2_streamed, .selects RX2 yX2_streamed yX2_streamed]
def wsX4_stream : List Cond := owX4_stream ++ (wsX40 ++ (wsX20 ++ (owX4_isStream ++ (owX4_isBetween ++ (owX2_streamed ++ (owX2_ruled ++ (owX2_playedThrough ++ (owX2_timeWhenFilled ++ []))))))))
theorem gdX4_stream : (wsX4_stream).all goodWord = true := by decide +kernel
def owX4_buffer : List Cond := [.code yX4_buffer cX4_buffer 9 (some .int), .fieldLink RX4 10 "TwoReels" "tape" "LTwoReels$Tape;", .methodLink RX4 228 yX4_isStream, .static yX4_isStream, .methodLink RX4 231 yX2_streamed, .instanceMethod yX2_streamed, .selects RX2 yX2_streamed yX2_streamed]
def wsX4_buffer : List Cond := owX4_buffer ++ (wsX40 ++ (wsX20 ++ (owX4_isStream ++ (owX4_isBetween ++ (owX2_streamed ++ (owX2_ruled ++ (owX2_playedThrough ++ (owX2_timeWhenFilled ++ []))))))))
theorem gdX4_buffer : (wsX4_buffer).all goodWord = true := by decide +kernel
def owX4_saw : List Cond := [.code yX4_saw cX4_saw 3 (some .int), .fieldLink RX4 10 "TwoReels" "tape" "LTwoReels$Tape;", .fieldLink RX4 235 "TwoReels$Tape" "seenCount" "I", .methodLink RX4 69 yX4_isBetween, .static yX4_isBetween, .methodLink RX4 238 yX2_addSeen, .instanceMethod yX2_addSeen, .selects RX2 yX2_addSeen yX2_addSeen, .initialized RX2]
def wsX4_saw : List Cond := owX4_saw ++ (wsX40 ++ (wsX20 ++ (owX4_isBetween ++ (owX2_addSeen ++ (owX4_setCell ++ [])))))
theorem gdX4_saw : (wsX4_saw).all goodWord = true := by decide +kernel
def owX4_forget : List Cond := [.code yX4_forget cX4_forget 2 (some .int), .fieldLink RX4 10 "TwoReels" "tape" "LTwoReels$Tape;", .fieldLink RX4 235 "TwoReels$Tape" "seenCount" "I"]
def wsX4_forget : List Cond := owX4_forget ++ (wsX40 ++ (wsX20 ++ []))
theorem gdX4_forget : (wsX4_forget).all goodWord = true := by decide +kernel
def owX4_fits : List Cond := [.code yX4_fits cX4_fits 5 (some .int), .fieldLink RX4 241 "TwoReels" "RULE_LEAST" "[I", .fieldLink RX4 249 "TwoReels" "RULE_MOST" "[I", .fieldLink RX4 10 "TwoReels" "tape" "LTwoReels$Tape;", .methodLink RX4 69 yX4_isBetween, .static yX4_isBetween, .methodLink RX4 245 yX4_cell, .methodLink RX4 252 yX2_canBe, .instanceMethod yX2_canBe, .selects RX2 yX2_canBe yX2_canBe, .initialized RX2]
def wsX4_fits : List Cond := owX4_fits ++ (wsX40 ++ (wsX20 ++ (owX4_isBetween ++ (owX4_cell ++ (owX2_canBe ++ (owX4_lengthOfTurns ++ []))))))
theorem gdX4_fits : (wsX4_fits).all goodWord = true := by decide +kernel
def owX4_imageNumbered : List Cond := [.code yX4_imageNumbered cX4_imageNumbered 2 (some (.object "TwoReels$Tape")), .fieldLink RX4 30 "TwoReels" "imageZero" "LTwoReels$Tape;", .fieldLink RX4 33 "TwoReels" "imageOne" "LTwoReels$Tape;"]
def wsX4_imageNumbered : List Cond := owX4_imageNumbered ++ (wsX40 ++ [])
theorem gdX4_imageNumbered : (wsX4_imageNumbered).all goodWord = true := by decide +kernel
def owX4_keep : List Cond := [.code yX4_keep cX4_keep 3 (some .int), .fieldLink RX4 59 "TwoReels" "imagesKept" "I", .fieldLink RX4 10 "TwoReels" "tape" "LTwoReels$Tape;", .methodLink RX4 69 yX4_isBetween, .static yX4_isBetween, .methodLink RX4 255 yX4_imageNumbered, .instanceMethod yX4_imageNumbered, .selects RX4 yX4_imageNumbered yX4_imageNumbered, .methodLink RX4 86 yX2_becomes, .instanceMethod yX2_becomes, .selects RX2 yX2_becomes yX2_becomes, .initialized RX2]
def wsX4_keep : List Cond := owX4_keep ++ (wsX40 ++ (wsX20 ++ (owX4_isBetween ++ (owX4_imageNumbered ++ (owX2_becomes ++ (owX4_copyRow ++ []))))))
theorem gdX4_keep : (wsX4_keep).all goodWord = true := by decide +kernel
def owX4_back : List Cond := [.code yX4_back cX4_back 2 (some .int), .fieldLink RX4 59 "TwoReels" "imagesKept" "I", .fieldLink RX4 10 "TwoReels" "tape" "LTwoReels$Tape;", .fieldLink RX4 138 "TwoReels$Tape" "blockCount" "I", .methodLink RX4 69 yX4_isBetween, .static yX4_isBetween, .methodLink RX4 255 yX4_imageNumbered, .instanceMethod yX4_imageNumbered, .selects RX4 yX4_imageNumbered yX4_imageNumbered, .methodLink RX4 86 yX2_becomes, .instanceMethod yX2_becomes, .selects RX2 yX2_becomes yX2_becomes, .initialized RX2]
def wsX4_back : List Cond := owX4_back ++ (wsX40 ++ (wsX20 ++ (owX4_isBetween ++ (owX4_imageNumbered ++ (owX2_becomes ++ (owX4_copyRow ++ []))))))
theorem gdX4_back : (wsX4_back).all goodWord = true := by decide +kernel
def owX4_sheetNumbered : List Cond := [.code yX4_sheetNumbered cX4_sheetNumbered 2 (some (.object "TwoReels$Sheet")), .fieldLink RX4 39 "TwoReels" "sheetZero" "LTwoReels$Sheet;", .fieldLink RX4 43 "TwoReels" "sheetOne" "LTwoReels$Sheet;", .fieldLink RX4 46 "TwoReels" "sheetTwo" "LTwoReels$Sheet;", .fieldLink RX4 49 "TwoReels" "sheetThree" "LTwoReels$Sheet;"]
def wsX4_sheetNumbered : List Cond := owX4_sheetNumbered ++ (wsX40 ++ [])
theorem gdX4_sheetNumbered : (wsX4_sheetNumbered).all goodWord = true := by decide +kernel
def owX4_sheet : List Cond := [.code yX4_sheet cX4_sheet 4 (some .int), .methodLink RX4 69 yX4_isBetween, .static yX4_isBetween, .methodLink RX4 259 yX4_sheetNumbered, .instanceMethod yX4_sheetNumbered, .selects RX4 yX4_sheetNumbered yX4_sheetNumbered, .methodLink RX4 263 yX1_makeNew, .instanceMethod yX1_makeNew, .selects RX1 yX1_makeNew yX1_makeNew, .initialized RX1]
def wsX4_sheet : List Cond := owX4_sheet ++ (wsX40 ++ (wsX10 ++ (owX4_isBetween ++ (owX4_sheetNumbered ++ (owX1_makeNew ++ (owX4_setCell ++ []))))))
theorem gdX4_sheet : (wsX4_sheet).all goodWord = true := by decide +kernel
def owX4_lay : List Cond := [.code yX4_lay cX4_lay 6 (some .int), .fieldLink RX4 267 "TwoReels$Sheet" "laneNow" "I", .methodLink RX4 69 yX4_isBetween, .methodLink RX4 259 yX4_sheetNumbered, .instanceMethod yX4_sheetNumbered, .selects RX4 yX4_sheetNumbered yX4_sheetNumbered, .methodLink RX4 270 yX1_faultOf, .instanceMethod yX1_faultOf, .selects RX1 yX1_faultOf yX1_faultOf, .methodLink RX4 273 yX1_put, .instanceMethod yX1_put, .selects RX1 yX1_put yX1_put]
def wsX4_lay : List Cond := owX4_lay ++ (wsX10 ++ (wsX40 ++ (owX4_isBetween ++ (owX4_sheetNumbered ++ (owX1_faultOf ++ (owX1_isNothing ++ (owX1_put ++ (owX4_setCell ++ []))))))))
theorem gdX4_lay : (wsX4_lay).all goodWord = true := by decide +kernel
def owX4_read : List Cond := [.code yX4_read cX4_read 11 (some .int), .fieldLink RX4 10 "TwoReels" "tape" "LTwoReels$Tape;", .fieldLink RX4 135 "TwoReels$Tape" "typedCount" "I", .fieldLink RX4 56 "TwoReels" "readFault" "I", .methodLink RX4 69 yX4_isBetween, .methodLink RX4 259 yX4_sheetNumbered, .instanceMethod yX4_sheetNumbered, .selects RX4 yX4_sheetNumbered yX4_sheetNumbered, .methodLink RX4 270 yX1_faultOf, .instanceMethod yX1_faultOf, .selects RX1 yX1_faultOf yX1_faultOf, .methodLink RX4 276 yX1_cellAt, .instanceMethod yX1_cellAt, .selects RX1 yX1_cellAt yX1_cellAt, .methodLink RX4 170 yX2_typeOne, .instanceMethod yX2_typeOne, .selects RX2 yX2_typeOne yX2_typeOne, .initialized RX2]
def wsX4_read : List Cond := owX4_read ++ (wsX40 ++ (wsX20 ++ (wsX10 ++ (owX4_isBetween ++ (owX4_sheetNumbered ++ (owX1_faultOf ++ (owX1_isNothing ++ (owX1_cellAt ++ (owX4_cell ++ (owX2_typeOne ++ (owX4_setCell ++ [])))))))))))
theorem gdX4_read : (wsX4_read).all goodWord = true := by decide +kernel
def owX4_torn : List Cond := [.code yX4_torn cX4_torn 1 (some .int), .fieldLink RX4 56 "TwoReels" "readFault" "I"]
def wsX4_torn : List Cond := owX4_torn ++ (wsX40 ++ [])
theorem gdX4_torn : (wsX4_torn).all goodWord = true := by decide +kernel
def owX4_count : List Cond := [.code yX4_count cX4_count 2 (some .int), .fieldLink RX4 10 "TwoReels" "tape" "LTwoReels$Tape;", .fieldLink RX4 138 "TwoReels$Tape" "blockCount" "I", .fieldLink RX4 235 "TwoReels$Tape" "seenCount" "I", .fieldLink RX4 59 "TwoReels" "imagesKept" "I", .fieldLink RX4 19 "TwoReels" "textReader" "LTwoReels$TextReader;", .fieldLink RX4 62 "TwoReels$TextReader" "letterCount" "I", .fieldLink RX4 39 "TwoReels" "sheetZero" "LTwoReels$Sheet;", .fieldLink RX4 289 "TwoReels$Sheet" "cellCount" "I", .methodLink RX4 279 yX2_markCount, .instanceMethod yX2_markCount, .selects RX2 yX2_markCount yX2_markCount, .methodLink RX4 282 yX2_byteCount, .instanceMethod yX2_byteCount, .selects RX2 yX2_byteCount yX2_byteCount, .methodLink RX4 201 yJ6_bitCount_0f7a4, .static yJ6_bitCount_0f7a4, .initialized RJ6, .methodLink RX4 285 yX1_isNothing, .instanceMethod yX1_isNothing, .selects RX1 yX1_isNothing yX1_isNothing, .initialized RX1]
def wsX4_count : List Cond := owX4_count ++ (wsX40 ++ (wsX20 ++ (wsX30 ++ (wsX10 ++ (owX2_markCount ++ (owX2_isMark ++ (owX2_sizeOf ++ (owX4_cell ++ (owX2_byteCount ++ (owJ6_bitCount_0f7a4 ++ (owX1_isNothing ++ [])))))))))))
theorem gdX4_count : (wsX4_count).all goodWord = true := by decide +kernel
def owX5_firstDraft : List Cond := [.code yX5_firstDraft cX5_firstDraft 1 none, .fieldLink RX5 20 "TwoReelsModel" "dRule" "[I", .fieldLink RX5 59 "TwoReelsModel" "dMany" "I", .fieldLink RX5 63 "TwoReelsModel" "toldLines" "I"]
def wsX5_firstDraft : List Cond := owX5_firstDraft ++ (wsX50 ++ [])
theorem gdX5_firstDraft : (wsX5_firstDraft).all goodWord = true := by decide +kernel
def owX5_longOf : List Cond := [.code yX5_longOf cX5_longOf 2 (some .int), .fieldLink RX5 17 "TwoReelsModel" "rule" "[I"]
def wsX5_longOf : List Cond := owX5_longOf ++ (wsX50 ++ [])
theorem gdX5_longOf : (wsX5_longOf).all goodWord = true := by decide +kernel
def owX5_endOf : List Cond := [.code yX5_endOf cX5_endOf 2 (some .int), .fieldLink RX5 7 "TwoReelsModel" "st" "[I", .methodLink RX5 176 yX5_longOf, .instanceMethod yX5_longOf, .selects RX5 yX5_longOf yX5_longOf, .initialized RX5]
def wsX5_endOf : List Cond := owX5_endOf ++ (wsX50 ++ (owX5_longOf ++ []))
theorem gdX5_endOf : (wsX5_endOf).all goodWord = true := by decide +kernel
def owX5_beginOf : List Cond := [.code yX5_beginOf cX5_beginOf 2 (some .int), .methodLink RX5 179 yX5_endOf, .instanceMethod yX5_endOf, .selects RX5 yX5_endOf yX5_endOf]
def wsX5_beginOf : List Cond := owX5_beginOf ++ (wsX50 ++ (owX5_endOf ++ (owX5_longOf ++ [])))
theorem gdX5_beginOf : (wsX5_beginOf).all goodWord = true := by decide +kernel
def owX5_odd : List Cond := [.code yX5_odd cX5_odd 3 (some .int)]
def wsX5_odd : List Cond := owX5_odd ++ []
theorem gdX5_odd : (wsX5_odd).all goodWord = true := by decide +kernel
def owX5_lays : List Cond := [.code yX5_lays cX5_lays 6 none, .fieldLink RX5 32 "TwoReelsModel" "spare" "[I", .methodLink RX5 187 yX5_beginOf, .instanceMethod yX5_beginOf, .selects RX5 yX5_beginOf yX5_beginOf, .methodLink RX5 190 yX5_odd, .static yX5_odd]
def wsX5_lays : List Cond := owX5_lays ++ (wsX50 ++ (owX5_beginOf ++ (owX5_endOf ++ (owX5_longOf ++ (owX5_odd ++ [])))))
theorem gdX5_lays : (wsX5_lays).all goodWord = true := by decide +kernel
def owX5_keepDraft : List Cond := [.code yX5_keepDraft cX5_keepDraft 3 none, .fieldLink RX5 20 "TwoReelsModel" "dRule" "[I", .fieldLink RX5 13 "TwoReelsModel" "isKept" "[Z", .fieldLink RX5 59 "TwoReelsModel" "dMany" "I", .fieldLink RX5 23 "TwoReelsModel" "dSize" "[I", .fieldLink RX5 26 "TwoReelsModel" "dByte" "[I", .methodLink RX5 66 yX5_lays, .instanceMethod yX5_lays, .selects RX5 yX5_lays yX5_lays]
def wsX5_keepDraft : List Cond := owX5_keepDraft ++ (wsX50 ++ (owX5_lays ++ (owX5_beginOf ++ (owX5_endOf ++ (owX5_longOf ++ (owX5_odd ++ []))))))
theorem gdX5_keepDraft : (wsX5_keepDraft).all goodWord = true := by decide +kernel
def owX5_init : List Cond := [.code yX5_init cX5_init 2 none, .methodLink RX5 1 objectInit, .instanceMethod objectInit, .code objectInit ⟨#[0xb1]⟩ 1 none, .arrayClass .int, .arrayClass .boolean, .fieldLink RX5 29 "TwoReelsModel" "tape" "[I", .fieldLink RX5 35 "TwoReelsModel" "got" "[I", .fieldLink RX5 38 "TwoReelsModel" "rest" "[I", .fieldLink RX5 41 "TwoReelsModel" "those" "[I", .fieldLink RX5 44 "TwoReelsModel" "lanes" "[I", .fieldLink RX5 47 "TwoReelsModel" "sizes" "[I", .fieldLink RX5 50 "TwoReelsModel" "cells" "[I", .methodLink RX5 53 yX5_firstDraft, .instanceMethod yX5_firstDraft, .selects RX5 yX5_firstDraft yX5_firstDraft, .methodLink RX5 56 yX5_keepDraft, .instanceMethod yX5_keepDraft, .selects RX5 yX5_keepDraft yX5_keepDraft]
def wsX5_init : List Cond := owX5_init ++ (wsX50 ++ (owX5_firstDraft ++ (owX5_keepDraft ++ (owX5_lays ++ (owX5_beginOf ++ (owX5_endOf ++ (owX5_longOf ++ (owX5_odd ++ []))))))))
theorem gdX5_init : (wsX5_init).all goodWord = true := by decide +kernel
def owX5_in : List Cond := [.code yX5_in cX5_in 6 (some .boolean)]
def wsX5_in : List Cond := owX5_in ++ []
theorem gdX5_in : (wsX5_in).all goodWord = true := by decide +kernel
def owX5_flag : List Cond := [.code yX5_flag cX5_flag 1 (some .int)]
def wsX5_flag : List Cond := owX5_flag ++ []
theorem gdX5_flag : (wsX5_flag).all goodWord = true := by decide +kernel
def owX5_less : List Cond := [.code yX5_less cX5_less 2 (some .int)]
def wsX5_less : List Cond := owX5_less ++ []
theorem gdX5_less : (wsX5_less).all goodWord = true := by decide +kernel
def owX5_draftEnd : List Cond := [.code yX5_draftEnd cX5_draftEnd 3 (some .int), .fieldLink RX5 59 "TwoReelsModel" "dMany" "I", .fieldLink RX5 20 "TwoReelsModel" "dRule" "[I", .fieldLink RX5 23 "TwoReelsModel" "dSize" "[I"]
def wsX5_draftEnd : List Cond := owX5_draftEnd ++ (wsX50 ++ [])
theorem gdX5_draftEnd : (wsX5_draftEnd).all goodWord = true := by decide +kernel
def owX5_feed : List Cond := [.code yX5_feed cX5_feed 4 (some .int), .fieldLink RX5 70 "TwoReelsModel" "taped" "I", .fieldLink RX5 29 "TwoReelsModel" "tape" "[I", .constantLong RX5 73 (255)]
def wsX5_feed : List Cond := owX5_feed ++ (wsX50 ++ [])
theorem gdX5_feed : (wsX5_feed).all goodWord = true := by decide +kernel
def owX5_end : List Cond := [.code yX5_end cX5_end 3 (some .int), .fieldLink RX5 70 "TwoReelsModel" "taped" "I", .methodLink RX5 75 yX5_in, .static yX5_in, .initialized RX5]
def wsX5_end : List Cond := owX5_end ++ (wsX50 ++ (owX5_in ++ []))
theorem gdX5_end : (wsX5_end).all goodWord = true := by decide +kernel
def owX5_needs : List Cond := [.code yX5_needs cX5_needs 3 none, .fieldLink RX5 79 "TwoReelsModel" "fault" "I", .fieldLink RX5 82 "TwoReelsModel" "from" "I", .fieldLink RX5 85 "TwoReelsModel" "wrongAt" "I"]
def wsX5_needs : List Cond := owX5_needs ++ (wsX50 ++ [])
theorem gdX5_needs : (wsX5_needs).all goodWord = true := by decide +kernel
def owX5_look : List Cond := [.code yX5_look cX5_look 2 (some .int), .fieldLink RX5 70 "TwoReelsModel" "taped" "I", .fieldLink RX5 29 "TwoReelsModel" "tape" "[I"]
def wsX5_look : List Cond := owX5_look ++ (wsX50 ++ [])
theorem gdX5_look : (wsX5_look).all goodWord = true := by decide +kernel
def owX5_is : List Cond := [.code yX5_is cX5_is 6 (some .boolean), .fieldLink RX5 88 "TwoReelsModel" "pos" "I", .fieldLink RX5 82 "TwoReelsModel" "from" "I", .methodLink RX5 91 yX5_look, .instanceMethod yX5_look, .selects RX5 yX5_look yX5_look, .initialized RX5]
def wsX5_is : List Cond := owX5_is ++ (wsX50 ++ (owX5_look ++ []))
theorem gdX5_is : (wsX5_is).all goodWord = true := by decide +kernel
def owX5_nameNow : List Cond := [.code yX5_nameNow cX5_nameNow 1 (some .int), .methodLink RX5 95 yX5_is, .instanceMethod yX5_is, .selects RX5 yX5_is yX5_is]
def wsX5_nameNow : List Cond := owX5_nameNow ++ (wsX50 ++ (owX5_is ++ (owX5_look ++ [])))
theorem gdX5_nameNow : (wsX5_nameNow).all goodWord = true := by decide +kernel
def owX5_next : List Cond := [.code yX5_next cX5_next 2 none, .fieldLink RX5 88 "TwoReelsModel" "pos" "I", .fieldLink RX5 99 "TwoReelsModel" "sort" "I", .constantLong RX5 102 (97), .constantLong RX5 104 (122), .constantLong RX5 106 (48), .constantLong RX5 108 (57), .fieldLink RX5 110 "TwoReelsModel" "value" "I", .methodLink RX5 91 yX5_look, .instanceMethod yX5_look, .selects RX5 yX5_look yX5_look, .initialized RX5, .methodLink RX5 75 yX5_in, .static yX5_in, .methodLink RX5 113 yX5_needs, .instanceMethod yX5_needs, .selects RX5 yX5_needs yX5_needs]
def wsX5_next : List Cond := owX5_next ++ (wsX50 ++ (owX5_look ++ (owX5_in ++ (owX5_needs ++ []))))
theorem gdX5_next : (wsX5_next).all goodWord = true := by decide +kernel
def owX5_readNumber : List Cond := [.code yX5_readNumber cX5_readNumber 4 (some .int), .methodLink RX5 117 yX5_next, .instanceMethod yX5_next, .selects RX5 yX5_next yX5_next]
def wsX5_readNumber : List Cond := owX5_readNumber ++ (wsX50 ++ (owX5_needs ++ (owX5_in ++ (owX5_next ++ (owX5_look ++ [])))))
theorem gdX5_readNumber : (wsX5_readNumber).all goodWord = true := by decide +kernel
def owX5_readBlock : List Cond := [.code yX5_readBlock cX5_readBlock 4 none, .fieldLink RX5 26 "TwoReelsModel" "dByte" "[I", .fieldLink RX5 59 "TwoReelsModel" "dMany" "I", .fieldLink RX5 23 "TwoReelsModel" "dSize" "[I", .methodLink RX5 120 yX5_readNumber, .instanceMethod yX5_readNumber, .selects RX5 yX5_readNumber yX5_readNumber]
def wsX5_readBlock : List Cond := owX5_readBlock ++ (wsX50 ++ (owX5_needs ++ (owX5_readNumber ++ (owX5_in ++ (owX5_next ++ (owX5_look ++ []))))))
theorem gdX5_readBlock : (wsX5_readBlock).all goodWord = true := by decide +kernel
def owX5_lowest : List Cond := [.code yX5_lowest cX5_lowest 1 (some .int)]
def wsX5_lowest : List Cond := owX5_lowest ++ []
theorem gdX5_lowest : (wsX5_lowest).all goodWord = true := by decide +kernel
def owX5_highest : List Cond := [.code yX5_highest cX5_highest 1 (some .int)]
def wsX5_highest : List Cond := owX5_highest ++ []
theorem gdX5_highest : (wsX5_highest).all goodWord = true := by decide +kernel
def owX5_readLine : List Cond := [.code yX5_readLine cX5_readLine 2 none, .fieldLink RX5 63 "TwoReelsModel" "toldLines" "I", .fieldLink RX5 20 "TwoReelsModel" "dRule" "[I", .methodLink RX5 124 yX5_nameNow, .instanceMethod yX5_nameNow, .selects RX5 yX5_nameNow yX5_nameNow, .methodLink RX5 128 yX5_readBlock, .instanceMethod yX5_readBlock, .selects RX5 yX5_readBlock yX5_readBlock, .methodLink RX5 131 yX5_lowest, .static yX5_lowest, .methodLink RX5 134 yX5_highest, .static yX5_highest]
def wsX5_readLine : List Cond := owX5_readLine ++ (wsX50 ++ (owX5_nameNow ++ (owX5_is ++ (owX5_look ++ (owX5_needs ++ (owX5_next ++ (owX5_in ++ (owX5_readBlock ++ (owX5_readNumber ++ (owX5_lowest ++ (owX5_highest ++ [])))))))))))
theorem gdX5_readLine : (wsX5_readLine).all goodWord = true := by decide +kernel
def owX5_text : List Cond := [.code yX5_text cX5_text 2 (some .int), .methodLink RX5 53 yX5_firstDraft, .instanceMethod yX5_firstDraft, .selects RX5 yX5_firstDraft yX5_firstDraft, .methodLink RX5 137 yX5_readLine, .instanceMethod yX5_readLine, .selects RX5 yX5_readLine yX5_readLine, .methodLink RX5 140 yX5_draftEnd, .instanceMethod yX5_draftEnd, .selects RX5 yX5_draftEnd yX5_draftEnd, .methodLink RX5 56 yX5_keepDraft, .instanceMethod yX5_keepDraft, .selects RX5 yX5_keepDraft yX5_keepDraft]
def wsX5_text : List Cond := owX5_text ++ (wsX50 ++ (owX5_firstDraft ++ (owX5_next ++ (owX5_look ++ (owX5_in ++ (owX5_needs ++ (owX5_readLine ++ (owX5_nameNow ++ (owX5_is ++ (owX5_readBlock ++ (owX5_readNumber ++ (owX5_lowest ++ (owX5_highest ++ (owX5_draftEnd ++ (owX5_keepDraft ++ (owX5_lays ++ (owX5_beginOf ++ (owX5_endOf ++ (owX5_longOf ++ (owX5_odd ++ []))))))))))))))))))))
theorem gdX5_text : (wsX5_text).all goodWord = true := by decide +kernel
def owX5_fault : List Cond := [.code yX5_fault cX5_fault 1 (some .int), .fieldLink RX5 79 "TwoReelsModel" "fault" "I"]
def wsX5_fault : List Cond := owX5_fault ++ (wsX50 ++ [])
theorem gdX5_fault : (wsX5_fault).all goodWord = true := by decide +kernel
def owX5_rule : List Cond := [.code yX5_rule cX5_rule 2 (some .int), .fieldLink RX5 7 "TwoReelsModel" "st" "[I", .constantLong RX5 143 (8), .fieldLink RX5 17 "TwoReelsModel" "rule" "[I", .methodLink RX5 75 yX5_in, .static yX5_in, .initialized RX5]
def wsX5_rule : List Cond := owX5_rule ++ (wsX50 ++ (owX5_in ++ []))
theorem gdX5_rule : (wsX5_rule).all goodWord = true := by decide +kernel
def owX5_turnsOf : List Cond := [.code yX5_turnsOf cX5_turnsOf 5 (some .int)]
def wsX5_turnsOf : List Cond := owX5_turnsOf ++ []
theorem gdX5_turnsOf : (wsX5_turnsOf).all goodWord = true := by decide +kernel
def owX5_turnsAt : List Cond := [.code yX5_turnsAt cX5_turnsAt 2 (some .int), .fieldLink RX5 17 "TwoReelsModel" "rule" "[I", .methodLink RX5 145 yX5_turnsOf, .static yX5_turnsOf, .initialized RX5]
def wsX5_turnsAt : List Cond := owX5_turnsAt ++ (wsX50 ++ (owX5_turnsOf ++ []))
theorem gdX5_turnsAt : (wsX5_turnsAt).all goodWord = true := by decide +kernel
def owX5_isPlace : List Cond := [.code yX5_isPlace cX5_isPlace 2 (some .boolean), .fieldLink RX5 7 "TwoReelsModel" "st" "[I", .methodLink RX5 75 yX5_in, .static yX5_in, .initialized RX5]
def wsX5_isPlace : List Cond := owX5_isPlace ++ (wsX50 ++ (owX5_in ++ []))
theorem gdX5_isPlace : (wsX5_isPlace).all goodWord = true := by decide +kernel
def owX5_turns : List Cond := [.code yX5_turns cX5_turns 3 (some .int), .methodLink RX5 149 yX5_isPlace, .instanceMethod yX5_isPlace, .selects RX5 yX5_isPlace yX5_isPlace, .methodLink RX5 153 yX5_turnsAt, .instanceMethod yX5_turnsAt, .selects RX5 yX5_turnsAt yX5_turnsAt]
def wsX5_turns : List Cond := owX5_turns ++ (wsX50 ++ (owX5_isPlace ++ (owX5_in ++ (owX5_turnsAt ++ (owX5_turnsOf ++ [])))))
theorem gdX5_turns : (wsX5_turns).all goodWord = true := by decide +kernel
def owX5_shows : List Cond := [.code yX5_shows cX5_shows 6 (some .int), .fieldLink RX5 7 "TwoReelsModel" "st" "[I", .methodLink RX5 75 yX5_in, .static yX5_in, .methodLink RX5 153 yX5_turnsAt, .instanceMethod yX5_turnsAt, .selects RX5 yX5_turnsAt yX5_turnsAt]
def wsX5_shows : List Cond := owX5_shows ++ (wsX50 ++ (owX5_in ++ (owX5_turnsAt ++ (owX5_turnsOf ++ []))))
theorem gdX5_shows : (wsX5_shows).all goodWord = true := by decide +kernel
def owX5_meet : List Cond := [.code yX5_meet cX5_meet 2 (some .int), .fieldLink RX5 7 "TwoReelsModel" "st" "[I", .methodLink RX5 153 yX5_turnsAt, .instanceMethod yX5_turnsAt, .selects RX5 yX5_turnsAt yX5_turnsAt]
def wsX5_meet : List Cond := owX5_meet ++ (wsX50 ++ (owX5_turnsAt ++ (owX5_turnsOf ++ [])))
theorem gdX5_meet : (wsX5_meet).all goodWord = true := by decide +kernel
def owX5_apart : List Cond := [.code yX5_apart cX5_apart 2 (some .int)]
def wsX5_apart : List Cond := owX5_apart ++ []
theorem gdX5_apart : (wsX5_apart).all goodWord = true := by decide +kernel
def owX5_playedTo : List Cond := [.code yX5_playedTo cX5_playedTo 3 (some .int), .fieldLink RX5 17 "TwoReelsModel" "rule" "[I", .methodLink RX5 156 yX5_apart, .static yX5_apart, .initialized RX5]
def wsX5_playedTo : List Cond := owX5_playedTo ++ (wsX50 ++ (owX5_apart ++ []))
theorem gdX5_playedTo : (wsX5_playedTo).all goodWord = true := by decide +kernel
def owX5_woundTo : List Cond := [.code yX5_woundTo cX5_woundTo 4 (some .int), .fieldLink RX5 7 "TwoReelsModel" "st" "[I", .methodLink RX5 153 yX5_turnsAt, .instanceMethod yX5_turnsAt, .selects RX5 yX5_turnsAt yX5_turnsAt]
def wsX5_woundTo : List Cond := owX5_woundTo ++ (wsX50 ++ (owX5_turnsAt ++ (owX5_turnsOf ++ [])))
theorem gdX5_woundTo : (wsX5_woundTo).all goodWord = true := by decide +kernel
def owX5_sooner : List Cond := [.code yX5_sooner cX5_sooner 3 (some .int), .methodLink RX5 159 yX5_playedTo, .instanceMethod yX5_playedTo, .selects RX5 yX5_playedTo yX5_playedTo, .methodLink RX5 162 yX5_woundTo, .instanceMethod yX5_woundTo, .selects RX5 yX5_woundTo yX5_woundTo, .methodLink RX5 165 yX5_less, .static yX5_less]
def wsX5_sooner : List Cond := owX5_sooner ++ (wsX50 ++ (owX5_playedTo ++ (owX5_apart ++ (owX5_woundTo ++ (owX5_turnsAt ++ (owX5_turnsOf ++ (owX5_less ++ [])))))))
theorem gdX5_sooner : (wsX5_sooner).all goodWord = true := by decide +kernel
def owX5_ticks : List Cond := [.code yX5_ticks cX5_ticks 4 (some .int), .constantLong RX5 168 (2), .methodLink RX5 149 yX5_isPlace, .instanceMethod yX5_isPlace, .selects RX5 yX5_isPlace yX5_isPlace, .methodLink RX5 170 yX5_sooner, .instanceMethod yX5_sooner, .selects RX5 yX5_sooner yX5_sooner]
def wsX5_ticks : List Cond := owX5_ticks ++ (wsX50 ++ (owX5_isPlace ++ (owX5_in ++ (owX5_playedTo ++ (owX5_apart ++ (owX5_woundTo ++ (owX5_turnsAt ++ (owX5_turnsOf ++ (owX5_sooner ++ (owX5_less ++ []))))))))))
theorem gdX5_ticks : (wsX5_ticks).all goodWord = true := by decide +kernel
def owX5_goesTo : List Cond := [.code yX5_goesTo cX5_goesTo 3 (some .int), .methodLink RX5 170 yX5_sooner, .instanceMethod yX5_sooner, .selects RX5 yX5_sooner yX5_sooner]
def wsX5_goesTo : List Cond := owX5_goesTo ++ (wsX50 ++ (owX5_sooner ++ (owX5_playedTo ++ (owX5_apart ++ (owX5_woundTo ++ (owX5_turnsAt ++ (owX5_turnsOf ++ (owX5_less ++ []))))))))
theorem gdX5_goesTo : (wsX5_goesTo).all goodWord = true := by decide +kernel
def owX5_go : List Cond := [.code yX5_go cX5_go 2 (some .int), .methodLink RX5 149 yX5_isPlace, .instanceMethod yX5_isPlace, .selects RX5 yX5_isPlace yX5_isPlace, .methodLink RX5 173 yX5_goesTo, .instanceMethod yX5_goesTo, .selects RX5 yX5_goesTo yX5_goesTo]
def wsX5_go : List Cond := owX5_go ++ (wsX50 ++ (owX5_isPlace ++ (owX5_in ++ (owX5_goesTo ++ (owX5_sooner ++ (owX5_playedTo ++ (owX5_apart ++ (owX5_woundTo ++ (owX5_turnsAt ++ (owX5_turnsOf ++ (owX5_less ++ [])))))))))))
theorem gdX5_go : (wsX5_go).all goodWord = true := by decide +kernel
def owX5_endOfAll : List Cond := [.code yX5_endOfAll cX5_endOfAll 1 (some .int), .methodLink RX5 179 yX5_endOf, .instanceMethod yX5_endOf, .selects RX5 yX5_endOf yX5_endOf]
def wsX5_endOfAll : List Cond := owX5_endOfAll ++ (wsX50 ++ (owX5_endOf ++ (owX5_longOf ++ [])))
theorem gdX5_endOfAll : (wsX5_endOfAll).all goodWord = true := by decide +kernel
def owX5_now : List Cond := [.code yX5_now cX5_now 2 (some .int), .methodLink RX5 153 yX5_turnsAt, .instanceMethod yX5_turnsAt, .selects RX5 yX5_turnsAt yX5_turnsAt, .methodLink RX5 182 yX5_endOfAll, .instanceMethod yX5_endOfAll, .selects RX5 yX5_endOfAll yX5_endOfAll]
def wsX5_now : List Cond := owX5_now ++ (wsX50 ++ (owX5_turnsAt ++ (owX5_turnsOf ++ (owX5_endOfAll ++ (owX5_endOf ++ (owX5_longOf ++ []))))))
theorem gdX5_now : (wsX5_now).all goodWord = true := by decide +kernel
def owX5_within : List Cond := [.code yX5_within cX5_within 5 (some .int), .constantLong RX5 185 (999999), .methodLink RX5 75 yX5_in, .static yX5_in, .methodLink RX5 170 yX5_sooner, .instanceMethod yX5_sooner, .selects RX5 yX5_sooner yX5_sooner]
def wsX5_within : List Cond := owX5_within ++ (wsX50 ++ (owX5_in ++ (owX5_sooner ++ (owX5_playedTo ++ (owX5_apart ++ (owX5_woundTo ++ (owX5_turnsAt ++ (owX5_turnsOf ++ (owX5_less ++ [])))))))))
theorem gdX5_within : (wsX5_within).all goodWord = true := by decide +kernel
def owX5_isBlock : List Cond := [.code yX5_isBlock cX5_isBlock 2 (some .boolean), .fieldLink RX5 7 "TwoReelsModel" "st" "[I", .methodLink RX5 75 yX5_in, .static yX5_in, .initialized RX5]
def wsX5_isBlock : List Cond := owX5_isBlock ++ (wsX50 ++ (owX5_in ++ []))
theorem gdX5_isBlock : (wsX5_isBlock).all goodWord = true := by decide +kernel
def owX5_columnOf : List Cond := [.code yX5_columnOf cX5_columnOf 3 (some .int), .fieldLink RX5 7 "TwoReelsModel" "st" "[I"]
def wsX5_columnOf : List Cond := owX5_columnOf ++ (wsX50 ++ [])
theorem gdX5_columnOf : (wsX5_columnOf).all goodWord = true := by decide +kernel
def owX5_block : List Cond := [.code yX5_block cX5_block 4 (some .int), .methodLink RX5 193 yX5_isBlock, .instanceMethod yX5_isBlock, .selects RX5 yX5_isBlock yX5_isBlock, .methodLink RX5 196 yX5_columnOf, .instanceMethod yX5_columnOf, .selects RX5 yX5_columnOf yX5_columnOf, .methodLink RX5 179 yX5_endOf, .instanceMethod yX5_endOf, .selects RX5 yX5_endOf yX5_endOf]
def wsX5_block : List Cond := owX5_block ++ (wsX50 ++ (owX5_isBlock ++ (owX5_in ++ (owX5_longOf ++ (owX5_columnOf ++ (owX5_endOf ++ []))))))
theorem gdX5_block : (wsX5_block).all goodWord = true := by decide +kernel
def owX5_blockAt : List Cond := [.code yX5_blockAt cX5_blockAt 4 (some .int), .methodLink RX5 149 yX5_isPlace, .instanceMethod yX5_isPlace, .selects RX5 yX5_isPlace yX5_isPlace, .methodLink RX5 179 yX5_endOf, .instanceMethod yX5_endOf, .selects RX5 yX5_endOf yX5_endOf]
def wsX5_blockAt : List Cond := owX5_blockAt ++ (wsX50 ++ (owX5_isPlace ++ (owX5_in ++ (owX5_endOf ++ (owX5_longOf ++ [])))))
theorem gdX5_blockAt : (wsX5_blockAt).all goodWord = true := by decide +kernel
def owX5_type : List Cond := [.code yX5_type cX5_type 2 (some .int), .constantLong RX5 73 (255), .fieldLink RX5 7 "TwoReelsModel" "st" "[I", .methodLink RX5 75 yX5_in, .static yX5_in, .initialized RX5]
def wsX5_type : List Cond := owX5_type ++ (wsX50 ++ (owX5_in ++ []))
theorem gdX5_type : (wsX5_type).all goodWord = true := by decide +kernel
def owX5_writes : List Cond := [.code yX5_writes cX5_writes 4 (some .int), .methodLink RX5 173 yX5_goesTo, .instanceMethod yX5_goesTo, .selects RX5 yX5_goesTo yX5_goesTo, .methodLink RX5 66 yX5_lays, .instanceMethod yX5_lays, .selects RX5 yX5_lays yX5_lays]
def wsX5_writes : List Cond := owX5_writes ++ (wsX50 ++ (owX5_beginOf ++ (owX5_endOf ++ (owX5_longOf ++ (owX5_goesTo ++ (owX5_sooner ++ (owX5_playedTo ++ (owX5_apart ++ (owX5_woundTo ++ (owX5_turnsAt ++ (owX5_turnsOf ++ (owX5_less ++ (owX5_lays ++ (owX5_odd ++ []))))))))))))))
theorem gdX5_writes : (wsX5_writes).all goodWord = true := by decide +kernel
def owX5_write : List Cond := [.code yX5_write cX5_write 3 (some .int), .methodLink RX5 75 yX5_in, .static yX5_in, .methodLink RX5 199 yX5_writes, .instanceMethod yX5_writes, .selects RX5 yX5_writes yX5_writes]
def wsX5_write : List Cond := owX5_write ++ (wsX50 ++ (owX5_in ++ (owX5_writes ++ (owX5_beginOf ++ (owX5_endOf ++ (owX5_longOf ++ (owX5_goesTo ++ (owX5_sooner ++ (owX5_playedTo ++ (owX5_apart ++ (owX5_woundTo ++ (owX5_turnsAt ++ (owX5_turnsOf ++ (owX5_less ++ (owX5_lays ++ (owX5_odd ++ []))))))))))))))))
theorem gdX5_write : (wsX5_write).all goodWord = true := by decide +kernel
def owX5_mark : List Cond := [.code yX5_mark cX5_mark 2 (some .int), .methodLink RX5 75 yX5_in, .static yX5_in, .methodLink RX5 199 yX5_writes, .instanceMethod yX5_writes, .selects RX5 yX5_writes yX5_writes]
def wsX5_mark : List Cond := owX5_mark ++ (wsX50 ++ (owX5_in ++ (owX5_writes ++ (owX5_beginOf ++ (owX5_endOf ++ (owX5_longOf ++ (owX5_goesTo ++ (owX5_sooner ++ (owX5_playedTo ++ (owX5_apart ++ (owX5_woundTo ++ (owX5_turnsAt ++ (owX5_turnsOf ++ (owX5_less ++ (owX5_lays ++ (owX5_odd ++ []))))))))))))))))
theorem gdX5_mark : (wsX5_mark).all goodWord = true := by decide +kernel
def owX5_isTrack : List Cond := [.code yX5_isTrack cX5_isTrack 1 (some .boolean), .constantLong RX5 143 (8), .methodLink RX5 75 yX5_in, .static yX5_in, .initialized RX5]
def wsX5_isTrack : List Cond := owX5_isTrack ++ (owX5_in ++ [])
theorem gdX5_isTrack : (wsX5_isTrack).all goodWord = true := by decide +kernel
def owX5_isColumn : List Cond := [.code yX5_isColumn cX5_isColumn 3 (some .boolean), .methodLink RX5 193 yX5_isBlock, .instanceMethod yX5_isBlock, .selects RX5 yX5_isBlock yX5_isBlock]
def wsX5_isColumn : List Cond := owX5_isColumn ++ (wsX50 ++ (owX5_isBlock ++ (owX5_in ++ [])))
theorem gdX5_isColumn : (wsX5_isColumn).all goodWord = true := by decide +kernel
def owX5_spoil : List Cond := [.code yX5_spoil cX5_spoil 4 (some .int), .methodLink RX5 202 yX5_isColumn, .instanceMethod yX5_isColumn, .selects RX5 yX5_isColumn yX5_isColumn, .methodLink RX5 206 yX5_isTrack, .static yX5_isTrack, .methodLink RX5 196 yX5_columnOf, .instanceMethod yX5_columnOf, .selects RX5 yX5_columnOf yX5_columnOf]
def wsX5_spoil : List Cond := owX5_spoil ++ (wsX50 ++ (owX5_isColumn ++ (owX5_isBlock ++ (owX5_in ++ (owX5_isTrack ++ (owX5_columnOf ++ []))))))
theorem gdX5_spoil : (wsX5_spoil).all goodWord = true := by decide +kernel
def owX5_dead : List Cond := [.code yX5_dead cX5_dead 3 (some .int), .fieldLink RX5 7 "TwoReelsModel" "st" "[I", .methodLink RX5 206 yX5_isTrack, .static yX5_isTrack]
def wsX5_dead : List Cond := owX5_dead ++ (wsX50 ++ (owX5_isTrack ++ (owX5_in ++ [])))
theorem gdX5_dead : (wsX5_dead).all goodWord = true := by decide +kernel
def owX5_across : List Cond := [.code yX5_across cX5_across 4 (some .int), .methodLink RX5 196 yX5_columnOf, .instanceMethod yX5_columnOf, .selects RX5 yX5_columnOf yX5_columnOf, .initialized RX5]
def wsX5_across : List Cond := owX5_across ++ (wsX50 ++ (owX5_columnOf ++ []))
theorem gdX5_across : (wsX5_across).all goodWord = true := by decide +kernel
def owX5_onesOf : List Cond := [.code yX5_onesOf cX5_onesOf 3 (some .int)]
def wsX5_onesOf : List Cond := owX5_onesOf ++ []
theorem gdX5_onesOf : (wsX5_onesOf).all goodWord = true := by decide +kernel
def owX5_reading : List Cond := [.code yX5_reading cX5_reading 8 (some .int), .fieldLink RX5 35 "TwoReelsModel" "got" "[I", .methodLink RX5 209 yX5_across, .instanceMethod yX5_across, .selects RX5 yX5_across yX5_across, .methodLink RX5 190 yX5_odd, .static yX5_odd, .methodLink RX5 212 yX5_onesOf, .static yX5_onesOf]
def wsX5_reading : List Cond := owX5_reading ++ (wsX50 ++ (owX5_across ++ (owX5_columnOf ++ (owX5_odd ++ (owX5_onesOf ++ [])))))
theorem gdX5_reading : (wsX5_reading).all goodWord = true := by decide +kernel
def owX5_check : List Cond := [.code yX5_check cX5_check 2 (some .int), .methodLink RX5 193 yX5_isBlock, .instanceMethod yX5_isBlock, .selects RX5 yX5_isBlock yX5_isBlock, .methodLink RX5 215 yX5_reading, .instanceMethod yX5_reading, .selects RX5 yX5_reading yX5_reading]
def wsX5_check : List Cond := owX5_check ++ (wsX50 ++ (owX5_isBlock ++ (owX5_in ++ (owX5_reading ++ (owX5_across ++ (owX5_columnOf ++ (owX5_odd ++ (owX5_onesOf ++ []))))))))
theorem gdX5_check : (wsX5_check).all goodWord = true := by decide +kernel
def owX5_got : List Cond := [.code yX5_got cX5_got 3 (some .int), .methodLink RX5 193 yX5_isBlock, .instanceMethod yX5_isBlock, .selects RX5 yX5_isBlock yX5_isBlock, .methodLink RX5 215 yX5_reading, .instanceMethod yX5_reading, .selects RX5 yX5_reading yX5_reading]
def wsX5_got : List Cond := owX5_got ++ (wsX50 ++ (owX5_isBlock ++ (owX5_in ++ (owX5_reading ++ (owX5_across ++ (owX5_columnOf ++ (owX5_odd ++ (owX5_onesOf ++ []))))))))
theorem gdX5_got : (wsX5_got).all goodWord = true := by decide +kernel
def owX5_column : List Cond := [.code yX5_column cX5_column 3 (some .int), .methodLink RX5 202 yX5_isColumn, .instanceMethod yX5_isColumn, .selects RX5 yX5_isColumn yX5_isColumn, .methodLink RX5 196 yX5_columnOf, .instanceMethod yX5_columnOf, .selects RX5 yX5_columnOf yX5_columnOf]
def wsX5_column : List Cond := owX5_column ++ (wsX50 ++ (owX5_isColumn ++ (owX5_isBlock ++ (owX5_in ++ (owX5_columnOf ++ [])))))
theorem gdX5_column : (wsX5_column).all goodWord = true := by decide +kernel
def owX5_isFooled : List Cond := [.code yX5_isFooled cX5_isFooled 5 (some .boolean), .methodLink RX5 215 yX5_reading, .instanceMethod yX5_reading, .selects RX5 yX5_reading yX5_reading]
def wsX5_isFooled : List Cond := owX5_isFooled ++ (wsX50 ++ (owX5_reading ++ (owX5_across ++ (owX5_columnOf ++ (owX5_odd ++ (owX5_onesOf ++ []))))))
theorem gdX5_isFooled : (wsX5_isFooled).all goodWord = true := by decide +kernel
def owX5_state : List Cond := [.code yX5_state cX5_state 6 (some .int), .constantLong RX5 168 (2), .methodLink RX5 75 yX5_in, .static yX5_in, .methodLink RX5 218 yX5_isFooled, .instanceMethod yX5_isFooled, .selects RX5 yX5_isFooled yX5_isFooled]
def wsX5_state : List Cond := owX5_state ++ (wsX50 ++ (owX5_in ++ (owX5_reading ++ (owX5_across ++ (owX5_columnOf ++ (owX5_odd ++ (owX5_onesOf ++ (owX5_isFooled ++ []))))))))
theorem gdX5_state : (wsX5_state).all goodWord = true := by decide +kernel
def owX5_best : List Cond := [.code yX5_best cX5_best 7 (some .int), .methodLink RX5 75 yX5_in, .static yX5_in, .methodLink RX5 215 yX5_reading, .instanceMethod yX5_reading, .selects RX5 yX5_reading yX5_reading, .methodLink RX5 221 yX5_flag, .static yX5_flag]
def wsX5_best : List Cond := owX5_best ++ (wsX50 ++ (owX5_in ++ (owX5_reading ++ (owX5_across ++ (owX5_columnOf ++ (owX5_odd ++ (owX5_onesOf ++ (owX5_flag ++ []))))))))
theorem gdX5_best : (wsX5_best).all goodWord = true := by decide +kernel
def owX5_takes : List Cond := [.code yX5_takes cX5_takes 4 (some .int), .fieldLink RX5 41 "TwoReelsModel" "those" "[I", .methodLink RX5 179 yX5_endOf, .instanceMethod yX5_endOf, .selects RX5 yX5_endOf yX5_endOf, .methodLink RX5 170 yX5_sooner, .instanceMethod yX5_sooner, .selects RX5 yX5_sooner yX5_sooner]
def wsX5_takes : List Cond := owX5_takes ++ (wsX50 ++ (owX5_endOf ++ (owX5_longOf ++ (owX5_sooner ++ (owX5_playedTo ++ (owX5_apart ++ (owX5_woundTo ++ (owX5_turnsAt ++ (owX5_turnsOf ++ (owX5_less ++ []))))))))))
theorem gdX5_takes : (wsX5_takes).all goodWord = true := by decide +kernel
def owX5_areBlocks : List Cond := [.code yX5_areBlocks cX5_areBlocks 2 (some .boolean), .fieldLink RX5 7 "TwoReelsModel" "st" "[I", .methodLink RX5 75 yX5_in, .static yX5_in, .initialized RX5]
def wsX5_areBlocks : List Cond := owX5_areBlocks ++ (wsX50 ++ (owX5_in ++ []))
theorem gdX5_areBlocks : (wsX5_areBlocks).all goodWord = true := by decide +kernel
def owX5_countOf : List Cond := [.code yX5_countOf cX5_countOf 3 (some .int)]
def wsX5_countOf : List Cond := owX5_countOf ++ []
theorem gdX5_countOf : (wsX5_countOf).all goodWord = true := by decide +kernel
def owX5_layRest : List Cond := [.code yX5_layRest cX5_layRest 8 none, .fieldLink RX5 225 "TwoReelsModel" "thoseMany" "I", .constant RX5 228 (2000000000), .fieldLink RX5 38 "TwoReelsModel" "rest" "[I", .methodLink RX5 229 yX5_takes, .instanceMethod yX5_takes, .selects RX5 yX5_takes yX5_takes]
def wsX5_layRest : List Cond := owX5_layRest ++ (wsX50 ++ (owX5_takes ++ (owX5_endOf ++ (owX5_longOf ++ (owX5_sooner ++ (owX5_playedTo ++ (owX5_apart ++ (owX5_woundTo ++ (owX5_turnsAt ++ (owX5_turnsOf ++ (owX5_less ++ [])))))))))))
theorem gdX5_layRest : (wsX5_layRest).all goodWord = true := by decide +kernel
def owX5_follows : List Cond := [.code yX5_follows cX5_follows 6 (some .int), .fieldLink RX5 225 "TwoReelsModel" "thoseMany" "I", .fieldLink RX5 38 "TwoReelsModel" "rest" "[I", .methodLink RX5 229 yX5_takes, .instanceMethod yX5_takes, .selects RX5 yX5_takes yX5_takes]
def wsX5_follows : List Cond := owX5_follows ++ (wsX50 ++ (owX5_takes ++ (owX5_endOf ++ (owX5_longOf ++ (owX5_sooner ++ (owX5_playedTo ++ (owX5_apart ++ (owX5_woundTo ++ (owX5_turnsAt ++ (owX5_turnsOf ++ (owX5_less ++ [])))))))))))
theorem gdX5_follows : (wsX5_follows).all goodWord = true := by decide +kernel
def owX5_nthOf : List Cond := [.code yX5_nthOf cX5_nthOf 5 (some .int), .methodLink RX5 232 yX5_follows, .instanceMethod yX5_follows, .selects RX5 yX5_follows yX5_follows]
def wsX5_nthOf : List Cond := owX5_nthOf ++ (wsX50 ++ (owX5_follows ++ (owX5_takes ++ (owX5_endOf ++ (owX5_longOf ++ (owX5_sooner ++ (owX5_playedTo ++ (owX5_apart ++ (owX5_woundTo ++ (owX5_turnsAt ++ (owX5_turnsOf ++ (owX5_less ++ []))))))))))))
theorem gdX5_nthOf : (wsX5_nthOf).all goodWord = true := by decide +kernel
def owX5_order : List Cond := [.code yX5_order cX5_order 3 (some .int), .constantLong RX5 238 (10), .constantLong RX5 240 (17), .methodLink RX5 235 yX5_areBlocks, .instanceMethod yX5_areBlocks, .selects RX5 yX5_areBlocks yX5_areBlocks, .methodLink RX5 242 yX5_countOf, .static yX5_countOf, .methodLink RX5 245 yX5_layRest, .instanceMethod yX5_layRest, .selects RX5 yX5_layRest yX5_layRest, .methodLink RX5 248 yX5_nthOf, .instanceMethod yX5_nthOf, .selects RX5 yX5_nthOf yX5_nthOf]
def wsX5_order : List Cond := owX5_order ++ (wsX50 ++ (owX5_areBlocks ++ (owX5_in ++ (owX5_countOf ++ (owX5_layRest ++ (owX5_takes ++ (owX5_endOf ++ (owX5_longOf ++ (owX5_sooner ++ (owX5_playedTo ++ (owX5_apart ++ (owX5_woundTo ++ (owX5_turnsAt ++ (owX5_turnsOf ++ (owX5_less ++ (owX5_nthOf ++ (owX5_follows ++ [])))))))))))))))))
theorem gdX5_order : (wsX5_order).all goodWord = true := by decide +kernel
def owX5_reads : List Cond := [.code yX5_reads cX5_reads 4 (some .int), .methodLink RX5 235 yX5_areBlocks, .instanceMethod yX5_areBlocks, .selects RX5 yX5_areBlocks yX5_areBlocks, .methodLink RX5 242 yX5_countOf, .static yX5_countOf, .methodLink RX5 245 yX5_layRest, .instanceMethod yX5_layRest, .selects RX5 yX5_layRest yX5_layRest, .methodLink RX5 248 yX5_nthOf, .instanceMethod yX5_nthOf, .selects RX5 yX5_nthOf yX5_nthOf]
def wsX5_reads : List Cond := owX5_reads ++ (wsX50 ++ (owX5_areBlocks ++ (owX5_in ++ (owX5_countOf ++ (owX5_layRest ++ (owX5_takes ++ (owX5_endOf ++ (owX5_longOf ++ (owX5_sooner ++ (owX5_playedTo ++ (owX5_apart ++ (owX5_woundTo ++ (owX5_turnsAt ++ (owX5_turnsOf ++ (owX5_less ++ (owX5_nthOf ++ (owX5_follows ++ [])))))))))))))))))
theorem gdX5_reads : (wsX5_reads).all goodWord = true := by decide +kernel
def owX5_moves : List Cond := [.code yX5_moves cX5_moves 5 none, .fieldLink RX5 7 "TwoReelsModel" "st" "[I"]
def wsX5_moves : List Cond := owX5_moves ++ (wsX50 ++ [])
theorem gdX5_moves : (wsX5_moves).all goodWord = true := by decide +kernel
def owX5_cut : List Cond := [.code yX5_cut cX5_cut 7 (some .int), .methodLink RX5 149 yX5_isPlace, .instanceMethod yX5_isPlace, .selects RX5 yX5_isPlace yX5_isPlace, .methodLink RX5 179 yX5_endOf, .instanceMethod yX5_endOf, .selects RX5 yX5_endOf yX5_endOf, .methodLink RX5 251 yX5_moves, .instanceMethod yX5_moves, .selects RX5 yX5_moves yX5_moves]
def wsX5_cut : List Cond := owX5_cut ++ (wsX50 ++ (owX5_isPlace ++ (owX5_in ++ (owX5_endOf ++ (owX5_longOf ++ (owX5_moves ++ []))))))
theorem gdX5_cut : (wsX5_cut).all goodWord = true := by decide +kernel
def owX5_holdsOf : List Cond := [.code yX5_holdsOf cX5_holdsOf 2 (some .int), .fieldLink RX5 7 "TwoReelsModel" "st" "[I", .methodLink RX5 176 yX5_longOf, .instanceMethod yX5_longOf, .selects RX5 yX5_longOf yX5_longOf, .initialized RX5]
def wsX5_holdsOf : List Cond := owX5_holdsOf ++ (wsX50 ++ (owX5_longOf ++ []))
theorem gdX5_holdsOf : (wsX5_holdsOf).all goodWord = true := by decide +kernel
def owX5_holds : List Cond := [.code yX5_holds cX5_holds 2 (some .int), .constantLong RX5 255 (99), .methodLink RX5 75 yX5_in, .static yX5_in, .methodLink RX5 257 yX5_holdsOf, .instanceMethod yX5_holdsOf, .selects RX5 yX5_holdsOf yX5_holdsOf]
def wsX5_holds : List Cond := owX5_holds ++ (wsX50 ++ (owX5_in ++ (owX5_holdsOf ++ (owX5_longOf ++ []))))
theorem gdX5_holds : (wsX5_holds).all goodWord = true := by decide +kernel
def owX5_most : List Cond := [.code yX5_most cX5_most 4 (some .int), .methodLink RX5 75 yX5_in, .static yX5_in, .methodLink RX5 257 yX5_holdsOf, .instanceMethod yX5_holdsOf, .selects RX5 yX5_holdsOf yX5_holdsOf]
def wsX5_most : List Cond := owX5_most ++ (wsX50 ++ (owX5_in ++ (owX5_holdsOf ++ (owX5_longOf ++ []))))
theorem gdX5_most : (wsX5_most).all goodWord = true := by decide +kernel
def owX5_streams : List Cond := [.code yX5_streams cX5_streams 9 (some .int), .fieldLink RX5 260 "TwoReelsModel" "stops" "I", .fieldLink RX5 17 "TwoReelsModel" "rule" "[I", .methodLink RX5 165 yX5_less, .static yX5_less, .initialized RX5, .methodLink RX5 221 yX5_flag, .static yX5_flag]
def wsX5_streams : List Cond := owX5_streams ++ (wsX50 ++ (owX5_less ++ (owX5_flag ++ [])))
theorem gdX5_streams : (wsX5_streams).all goodWord = true := by decide +kernel
def owX5_isStream : List Cond := [.code yX5_isStream cX5_isStream 3 (some .boolean), .constantLong RX5 255 (99), .constantLong RX5 263 (9999), .methodLink RX5 75 yX5_in, .static yX5_in, .initialized RX5]
def wsX5_isStream : List Cond := owX5_isStream ++ (owX5_in ++ [])
theorem gdX5_isStream : (wsX5_isStream).all goodWord = true := by decide +kernel
def owX5_stream : List Cond := [.code yX5_stream cX5_stream 7 (some .int), .methodLink RX5 265 yX5_isStream, .static yX5_isStream, .methodLink RX5 269 yX5_streams, .instanceMethod yX5_streams, .selects RX5 yX5_streams yX5_streams]
def wsX5_stream : List Cond := owX5_stream ++ (wsX50 ++ (owX5_isStream ++ (owX5_in ++ (owX5_streams ++ (owX5_less ++ (owX5_flag ++ []))))))
theorem gdX5_stream : (wsX5_stream).all goodWord = true := by decide +kernel
def owX5_buffer : List Cond := [.code yX5_buffer cX5_buffer 9 (some .int), .methodLink RX5 265 yX5_isStream, .static yX5_isStream, .methodLink RX5 269 yX5_streams, .instanceMethod yX5_streams, .selects RX5 yX5_streams yX5_streams]
def wsX5_buffer : List Cond := owX5_buffer ++ (wsX50 ++ (owX5_isStream ++ (owX5_in ++ (owX5_streams ++ (owX5_less ++ (owX5_flag ++ []))))))
theorem gdX5_buffer : (wsX5_buffer).all goodWord = true := by decide +kernel
def owX5_saw : List Cond := [.code yX5_saw cX5_saw 3 (some .int), .constantLong RX5 273 (999), .constantLong RX5 263 (9999), .fieldLink RX5 7 "TwoReelsModel" "st" "[I", .methodLink RX5 75 yX5_in, .static yX5_in, .initialized RX5]
def wsX5_saw : List Cond := owX5_saw ++ (wsX50 ++ (owX5_in ++ []))
theorem gdX5_saw : (wsX5_saw).all goodWord = true := by decide +kernel
def owX5_forget : List Cond := [.code yX5_forget cX5_forget 2 (some .int), .fieldLink RX5 7 "TwoReelsModel" "st" "[I"]
def wsX5_forget : List Cond := owX5_forget ++ (wsX50 ++ [])
theorem gdX5_forget : (wsX5_forget).all goodWord = true := by decide +kernel
def owX5_canBe : List Cond := [.code yX5_canBe cX5_canBe 4 (some .boolean), .fieldLink RX5 7 "TwoReelsModel" "st" "[I", .methodLink RX5 145 yX5_turnsOf, .static yX5_turnsOf, .initialized RX5]
def wsX5_canBe : List Cond := owX5_canBe ++ (wsX50 ++ (owX5_turnsOf ++ []))
theorem gdX5_canBe : (wsX5_canBe).all goodWord = true := by decide +kernel
def owX5_fits : List Cond := [.code yX5_fits cX5_fits 6 (some .int), .constantLong RX5 168 (2), .methodLink RX5 75 yX5_in, .static yX5_in, .methodLink RX5 275 yX5_canBe, .instanceMethod yX5_canBe, .selects RX5 yX5_canBe yX5_canBe]
def wsX5_fits : List Cond := owX5_fits ++ (wsX50 ++ (owX5_in ++ (owX5_canBe ++ (owX5_turnsOf ++ []))))
theorem gdX5_fits : (wsX5_fits).all goodWord = true := by decide +kernel
def owX5_copies : List Cond := [.code yX5_copies cX5_copies 4 none, .fieldLink RX5 7 "TwoReelsModel" "st" "[I"]
def wsX5_copies : List Cond := owX5_copies ++ (wsX50 ++ [])
theorem gdX5_copies : (wsX5_copies).all goodWord = true := by decide +kernel
def owX5_keep : List Cond := [.code yX5_keep cX5_keep 3 (some .int), .fieldLink RX5 13 "TwoReelsModel" "isKept" "[Z", .methodLink RX5 75 yX5_in, .static yX5_in, .initialized RX5, .methodLink RX5 221 yX5_flag, .static yX5_flag, .methodLink RX5 278 yX5_copies, .instanceMethod yX5_copies, .selects RX5 yX5_copies yX5_copies]
def wsX5_keep : List Cond := owX5_keep ++ (wsX50 ++ (owX5_in ++ (owX5_flag ++ (owX5_copies ++ []))))
theorem gdX5_keep : (wsX5_keep).all goodWord = true := by decide +kernel
def owX5_back : List Cond := [.code yX5_back cX5_back 2 (some .int), .fieldLink RX5 13 "TwoReelsModel" "isKept" "[Z", .methodLink RX5 75 yX5_in, .static yX5_in, .initialized RX5, .methodLink RX5 278 yX5_copies, .instanceMethod yX5_copies, .selects RX5 yX5_copies yX5_copies]
def wsX5_back : List Cond := owX5_back ++ (wsX50 ++ (owX5_in ++ (owX5_copies ++ [])))
theorem gdX5_back : (wsX5_back).all goodWord = true := by decide +kernel
def owX5_isSheet : List Cond := [.code yX5_isSheet cX5_isSheet 2 (some .boolean), .constantLong RX5 282 (3), .constantLong RX5 168 (2), .methodLink RX5 75 yX5_in, .static yX5_in, .initialized RX5]
def wsX5_isSheet : List Cond := owX5_isSheet ++ (owX5_in ++ [])
theorem gdX5_isSheet : (wsX5_isSheet).all goodWord = true := by decide +kernel
def owX5_sheet : List Cond := [.code yX5_sheet cX5_sheet 5 (some .int), .fieldLink RX5 44 "TwoReelsModel" "lanes" "[I", .fieldLink RX5 47 "TwoReelsModel" "sizes" "[I", .fieldLink RX5 50 "TwoReelsModel" "cells" "[I", .methodLink RX5 284 yX5_isSheet, .static yX5_isSheet]
def wsX5_sheet : List Cond := owX5_sheet ++ (wsX50 ++ (owX5_isSheet ++ (owX5_in ++ [])))
theorem gdX5_sheet : (wsX5_sheet).all goodWord = true := by decide +kernel
def owX5_lay : List Cond := [.code yX5_lay cX5_lay 4 (some .int), .fieldLink RX5 44 "TwoReelsModel" "lanes" "[I", .fieldLink RX5 47 "TwoReelsModel" "sizes" "[I", .fieldLink RX5 50 "TwoReelsModel" "cells" "[I", .methodLink RX5 284 yX5_isSheet, .static yX5_isSheet]
def wsX5_lay : List Cond := owX5_lay ++ (wsX50 ++ (owX5_isSheet ++ (owX5_in ++ [])))
theorem gdX5_lay : (wsX5_lay).all goodWord = true := by decide +kernel
def owX5_read : List Cond := [.code yX5_read cX5_read 10 (some .int), .constantLong RX5 287 (12), .fieldLink RX5 44 "TwoReelsModel" "lanes" "[I", .fieldLink RX5 47 "TwoReelsModel" "sizes" "[I", .fieldLink RX5 50 "TwoReelsModel" "cells" "[I", .fieldLink RX5 289 "TwoReelsModel" "torn" "I", .methodLink RX5 284 yX5_isSheet, .static yX5_isSheet, .methodLink RX5 292 yX5_type, .instanceMethod yX5_type, .selects RX5 yX5_type yX5_type]
def wsX5_read : List Cond := owX5_read ++ (wsX50 ++ (owX5_isSheet ++ (owX5_in ++ (owX5_type ++ []))))
theorem gdX5_read : (wsX5_read).all goodWord = true := by decide +kernel
def owX5_torn : List Cond := [.code yX5_torn cX5_torn 1 (some .int), .fieldLink RX5 289 "TwoReelsModel" "torn" "I"]
def wsX5_torn : List Cond := owX5_torn ++ (wsX50 ++ [])
theorem gdX5_torn : (wsX5_torn).all goodWord = true := by decide +kernel
def owX5_count : List Cond := [.code yX5_count cX5_count 5 (some .int), .fieldLink RX5 7 "TwoReelsModel" "st" "[I", .fieldLink RX5 13 "TwoReelsModel" "isKept" "[Z", .fieldLink RX5 70 "TwoReelsModel" "taped" "I", .fieldLink RX5 44 "TwoReelsModel" "lanes" "[I", .fieldLink RX5 47 "TwoReelsModel" "sizes" "[I", .methodLink RX5 221 yX5_flag, .static yX5_flag, .initialized RX5]
def wsX5_count : List Cond := owX5_count ++ (wsX50 ++ (owX5_flag ++ []))
theorem gdX5_count : (wsX5_count).all goodWord = true := by decide +kernel
def owJ9_abs_0f7a4 : List Cond := [.code yJ9_abs_0f7a4 cJ9_abs_0f7a4 1 (some .int)]
def wsJ9_abs_0f7a4 : List Cond := owJ9_abs_0f7a4 ++ []
theorem gdJ9_abs_0f7a4 : (wsJ9_abs_0f7a4).all goodWord = true := by decide +kernel
def owJ9_max_7cf53 : List Cond := [.code yJ9_max_7cf53 cJ9_max_7cf53 2 (some .int)]
def wsJ9_max_7cf53 : List Cond := owJ9_max_7cf53 ++ []
theorem gdJ9_max_7cf53 : (wsJ9_max_7cf53).all goodWord = true := by decide +kernel
def owJ9_min_7cf53 : List Cond := [.code yJ9_min_7cf53 cJ9_min_7cf53 2 (some .int)]
def wsJ9_min_7cf53 : List Cond := owJ9_min_7cf53 ++ []
theorem gdJ9_min_7cf53 : (wsJ9_min_7cf53).all goodWord = true := by decide +kernel
def owL_law : List Cond := [.classLink RL 7 RX4, .instantiable RX4 12, .classLink RL 10 RX5, .instantiable RX5 26, .constantLong RL 13 (4294967295), .methodLink RL 9 yX4_init, .instanceMethod yX4_init, .methodLink RL 12 yX5_init, .instanceMethod yX5_init, .methodLink RL 15 yX4_feed, .instanceMethod yX4_feed, .selects RX4 yX4_feed yX4_feed, .methodLink RL 19 yX5_feed, .instanceMethod yX5_feed, .selects RX5 yX5_feed yX5_feed, .methodLink RL 20 yX4_end, .instanceMethod yX4_end, .selects RX4 yX4_end yX4_end, .methodLink RL 24 yX5_end, .instanceMethod yX5_end, .selects RX5 yX5_end yX5_end, .methodLink RL 25 yX4_text, .instanceMethod yX4_text, .selects RX4 yX4_text yX4_text, .methodLink RL 29 yX5_text, .instanceMethod yX5_text, .selects RX5 yX5_text yX5_text, .methodLink RL 30 yX4_fault, .instanceMethod yX4_fault, .selects RX4 yX4_fault yX4_fault, .methodLink RL 33 yX5_fault, .instanceMethod yX5_fault, .selects RX5 yX5_fault yX5_fault, .methodLink RL 34 yX4_rule, .instanceMethod yX4_rule, .selects RX4 yX4_rule yX4_rule, .methodLink RL 37 yX5_rule, .instanceMethod yX5_rule, .selects RX5 yX5_rule yX5_rule, .methodLink RL 38 yX4_turns, .instanceMethod yX4_turns, .selects RX4 yX4_turns yX4_turns, .methodLink RL 42 yX5_turns, .instanceMethod yX5_turns, .selects RX5 yX5_turns yX5_turns, .methodLink RL 43 yX4_shows, .instanceMethod yX4_shows, .selects RX4 yX4_shows yX4_shows, .methodLink RL 47 yX5_shows, .instanceMethod yX5_shows, .selects RX5 yX5_shows yX5_shows, .methodLink RL 48 yX4_meet, .instanceMethod yX4_meet, .selects RX4 yX4_meet yX4_meet, .methodLink RL 51 yX5_meet, .instanceMethod yX5_meet, .selects RX5 yX5_meet yX5_meet, .methodLink RL 52 yX4_ticks, .instanceMethod yX4_ticks, .selects RX4 yX4_ticks yX4_ticks, .methodLink RL 56 yX5_ticks, .instanceMethod yX5_ticks, .selects RX5 yX5_ticks yX5_ticks, .methodLink RL 57 yX4_go, .instanceMethod yX4_go, .selects RX4 yX4_go yX4_go, .methodLink RL 60 yX5_go, .instanceMethod yX5_go, .selects RX5 yX5_go yX5_go, .methodLink RL 61 yX4_now, .instanceMethod yX4_now, .selects RX4 yX4_now yX4_now, .methodLink RL 64 yX5_now, .instanceMethod yX5_now, .selects RX5 yX5_now yX5_now, .methodLink RL 65 yX4_within, .instanceMethod yX4_within, .selects RX4 yX4_within yX4_within, .methodLink RL 68 yX5_within, .instanceMethod yX5_within, .selects RX5 yX5_within yX5_within, .methodLink RL 69 yX4_block, .instanceMethod yX4_block, .selects RX4 yX4_block yX4_block, .methodLink RL 72 yX5_block, .instanceMethod yX5_block, .selects RX5 yX5_block yX5_block, .methodLink RL 73 yX4_blockAt, .instanceMethod yX4_blockAt, .selects RX4 yX4_blockAt yX4_blockAt, .methodLink RL 76 yX5_blockAt, .instanceMethod yX5_blockAt, .selects RX5 yX5_blockAt yX5_blockAt, .methodLink RL 77 yX4_type, .instanceMethod yX4_type, .selects RX4 yX4_type yX4_type, .methodLink RL 80 yX5_type, .methodLink RL 81 yX4_write, .instanceMethod yX4_write, .selects RX4 yX4_write yX4_write, .methodLink RL 84 yX5_write, .instanceMethod yX5_write, .selects RX5 yX5_write yX5_write, .methodLink RL 85 yX4_mark, .instanceMethod yX4_mark, .selects RX4 yX4_mark yX4_mark, .methodLink RL 88 yX5_mark, .instanceMethod yX5_mark, .selects RX5 yX5_mark yX5_mark, .methodLink RL 89 yX4_spoil, .instanceMethod yX4_spoil, .selects RX4 yX4_spoil yX4_spoil, .methodLink RL 92 yX5_spoil, .instanceMethod yX5_spoil, .selects RX5 yX5_spoil yX5_spoil, .methodLink RL 93 yX4_dead, .instanceMethod yX4_dead, .selects RX4 yX4_dead yX4_dead, .methodLink RL 96 yX5_dead, .instanceMethod yX5_dead, .selects RX5 yX5_dead yX5_dead, .methodLink RL 97 yX4_check, .instanceMethod yX4_check, .selects RX4 yX4_check yX4_check, .methodLink RL 100 yX5_check, .instanceMethod yX5_check, .selects RX5 yX5_check yX5_check, .methodLink RL 101 yX4_got, .instanceMethod yX4_got, .selects RX4 yX4_got yX4_got, .methodLink RL 104 yX5_got, .instanceMethod yX5_got, .selects RX5 yX5_got yX5_got, .methodLink RL 105 yX4_column, .instanceMethod yX4_column, .selects RX4 yX4_column yX4_column, .methodLink RL 108 yX5_column, .instanceMethod yX5_column, .selects RX5 yX5_column yX5_column, .methodLink RL 109 yX4_state, .instanceMethod yX4_state, .selects RX4 yX4_state yX4_state, .methodLink RL 112 yX5_state, .instanceMethod yX5_state, .selects RX5 yX5_state yX5_state, .methodLink RL 113 yX4_best, .instanceMethod yX4_best, .selects RX4 yX4_best yX4_best, .methodLink RL 116 yX5_best, .instanceMethod yX5_best, .selects RX5 yX5_best yX5_best, .methodLink RL 117 yX4_order, .instanceMethod yX4_order, .selects RX4 yX4_order yX4_order, .methodLink RL 120 yX5_order, .instanceMethod yX5_order, .selects RX5 yX5_order yX5_order, .methodLink RL 121 yX4_reads, .instanceMethod yX4_reads, .selects RX4 yX4_reads yX4_reads, .methodLink RL 124 yX5_reads, .instanceMethod yX5_reads, .selects RX5 yX5_reads yX5_reads, .methodLink RL 125 yX4_cut, .instanceMethod yX4_cut, .selects RX4 yX4_cut yX4_cut, .methodLink RL 128 yX5_cut, .instanceMethod yX5_cut, .selects RX5 yX5_cut yX5_cut, .methodLink RL 129 yX4_holds, .instanceMethod yX4_holds, .selects RX4 yX4_holds yX4_holds, .methodLink RL 132 yX5_holds, .instanceMethod yX5_holds, .selects RX5 yX5_holds yX5_holds, .methodLink RL 133 yX4_most, .instanceMethod yX4_most, .selects RX4 yX4_most yX4_most, .methodLink RL 136 yX5_most, .instanceMethod yX5_most, .selects RX5 yX5_most yX5_most, .methodLink RL 137 yX4_stream, .instanceMethod yX4_stream, .selects RX4 yX4_stream yX4_stream, .methodLink RL 141 yX5_stream, .instanceMethod yX5_stream, .selects RX5 yX5_stream yX5_stream, .methodLink RL 142 yX4_buffer, .instanceMethod yX4_buffer, .selects RX4 yX4_buffer yX4_buffer, .methodLink RL 146 yX5_buffer, .instanceMethod yX5_buffer, .selects RX5 yX5_buffer yX5_buffer, .methodLink RL 147 yX4_saw, .instanceMethod yX4_saw, .selects RX4 yX4_saw yX4_saw, .methodLink RL 150 yX5_saw, .instanceMethod yX5_saw, .selects RX5 yX5_saw yX5_saw, .methodLink RL 151 yX4_forget, .instanceMethod yX4_forget, .selects RX4 yX4_forget yX4_forget, .methodLink RL 154 yX5_forget, .instanceMethod yX5_forget, .selects RX5 yX5_forget yX5_forget, .methodLink RL 155 yX4_fits, .instanceMethod yX4_fits, .selects RX4 yX4_fits yX4_fits, .methodLink RL 158 yX5_fits, .instanceMethod yX5_fits, .selects RX5 yX5_fits yX5_fits, .methodLink RL 159 yX4_keep, .instanceMethod yX4_keep, .selects RX4 yX4_keep yX4_keep, .methodLink RL 162 yX5_keep, .instanceMethod yX5_keep, .selects RX5 yX5_keep yX5_keep, .methodLink RL 163 yX4_back, .instanceMethod yX4_back, .selects RX4 yX4_back yX4_back, .methodLink RL 166 yX5_back, .instanceMethod yX5_back, .selects RX5 yX5_back yX5_back, .methodLink RL 167 yX4_sheet, .instanceMethod yX4_sheet, .selects RX4 yX4_sheet yX4_sheet, .methodLink RL 170 yX5_sheet, .instanceMethod yX5_sheet, .selects RX5 yX5_sheet yX5_sheet, .methodLink RL 171 yX4_lay, .instanceMethod yX4_lay, .selects RX4 yX4_lay yX4_lay, .methodLink RL 174 yX5_lay, .instanceMethod yX5_lay, .selects RX5 yX5_lay yX5_lay, .methodLink RL 175 yX4_read, .instanceMethod yX4_read, .selects RX4 yX4_read yX4_read, .methodLink RL 178 yX5_read, .instanceMethod yX5_read, .selects RX5 yX5_read yX5_read, .methodLink RL 179 yX4_torn, .instanceMethod yX4_torn, .selects RX4 yX4_torn yX4_torn, .methodLink RL 182 yX5_torn, .instanceMethod yX5_torn, .selects RX5 yX5_torn yX5_torn, .methodLink RL 183 yX4_count, .instanceMethod yX4_count, .selects RX4 yX4_count yX4_count, .methodLink RL 186 yX5_count, .instanceMethod yX5_count, .selects RX5 yX5_count yX5_count]
def wsL_law : List Cond := owL_law ++ (wsX40 ++ (wsX50 ++ (wsX20 ++ (wsX30 ++ (wsX00 ++ (wsX10 ++ (owX4_init ++ (owX2_init ++ (owX2_reset ++ (owX4_copyRow ++ (owX3_init ++ (owX0_init ++ (owX1_init ++ (owX5_init ++ (owX5_firstDraft ++ (owX5_keepDraft ++ (owX5_lays ++ (owX5_beginOf ++ (owX5_endOf ++ (owX5_longOf ++ (owX5_odd ++ (owX4_feed ++ (owX3_addLetter ++ (owX5_feed ++ (owX4_end ++ (owX4_isBetween ++ (owX5_end ++ (owX5_in ++ (owX4_text ++ (owX3_takeAll ++ (owX3_readToken ++ (owX3_letterAt ++ (owX3_isSmallLetter ++ (owX3_isFigure ++ (owX3_readNumber ++ (owX3_refuse ++ (owX3_takeLine ++ (owX3_ruleNamed ++ (owX3_isNamed ++ (owJ0_length_8abf5 ++ (owJ0_coder_7d493 ++ (owJ0_charAt_5068e ++ (owJ0_isLatin1_aae02 ++ (owJ1_charAt_3b067 ++ (owJ0_checkIndex_df160 ++ (owJ3_checkIndex_8e157 ++ (owJ2_charAt_3b067 ++ (owJ2_checkIndex_2214a ++ (owJ2_length_9d52b ++ (owJ2_getChar_3b067 ++ (owX3_takeRule ++ (owX4_cell ++ (owX3_isNumberWithin ++ (owX4_setCell ++ (owX3_takeBlock ++ (owX3_hasRoomForBlock ++ (owX2_typeOne ++ (owX2_putBlock ++ (owJ6_bitCount_0f7a4 ++ (owX2_setColumn ++ (owX3_takeMark ++ (owX3_takeSign ++ (owX2_layOutBlocks ++ (owX2_beginningAt ++ (owX2_endOf ++ (owX2_hasBlock ++ (owX2_beginOf ++ (owX2_sizeOf ++ (owX2_longWith ++ (owX2_ruled ++ (owX4_dividedUp ++ (owX2_becomes ++ (owX5_text ++ (owX5_next ++ (owX5_look ++ (owX5_needs ++ (owX5_readLine ++ (owX5_nameNow ++ (owX5_is ++ (owX5_readBlock ++ (owX5_readNumber ++ (owX5_lowest ++ (owX5_highest ++ (owX5_draftEnd ++ (owX4_fault ++ (owX5_fault ++ (owX4_rule ++ (owX5_rule ++ (owX4_turns ++ (owX2_hasPlace ++ (owX2_leftTurns ++ (owX2_turnsOf ++ (owX4_lengthOfTurns ++ (owX2_rightTurns ++ (owX5_turns ++ (owX5_isPlace ++ (owX5_turnsAt ++ (owX5_turnsOf ++ (owX4_shows ++ (owX2_firstShowing ++ (owX2_lastShowing ++ (owX5_shows ++ (owX4_meet ++ (owX2_meetingPlace ++ (owX5_meet ++ (owX4_ticks ++ (owX2_played ++ (owX2_playedThrough ++ (owX2_wound ++ (owX2_sooner ++ (owX5_ticks ++ (owX5_playedTo ++ (owX5_apart ++ (owX5_woundTo ++ (owX5_sooner ++ (owX5_less ++ (owX4_go ++ (owX2_goTo ++ (owX5_go ++ (owX5_goesTo ++ (owX4_now ++ (owX5_now ++ (owX5_endOfAll ++ (owX4_within ++ (owX2_reach ++ (owX5_within ++ (owX4_block ++ (owX2_longOf ++ (owX2_isMark ++ (owX2_columnOf ++ (owX5_block ++ (owX5_isBlock ++ (owX5_columnOf ++ (owX4_blockAt ++ (owX2_blockWith ++ (owX5_blockAt ++ (owX4_type ++ (owX5_type ++ (owX4_write ++ (owX2_hasRoomAt ++ (owX2_writeAt ++ (owX5_write ++ (owX5_writes ++ (owX4_mark ++ (owX5_mark ++ (owX4_spoil ++ (owX2_hasColumn ++ (owX2_turnBit ++ (owX5_spoil ++ (owX5_isColumn ++ (owX5_isTrack ++ (owX4_dead ++ (owX5_dead ++ (owX4_check ++ (owX2_readingOf ++ (owX2_wrongAlongCount ++ (owX2_isWrongAlong ++ (owX2_wrongAcross ++ (owX5_check ++ (owX5_reading ++ (owX5_across ++ (owX5_onesOf ++ (owX4_got ++ (owX2_byteAsRead ++ (owX5_got ++ (owX4_column ++ (owX5_column ++ (owX4_state ++ (owX2_lostBlocksBy ++ (owX2_fooledBlocks ++ (owX2_isReadAsWritten ++ (owX2_originalOf ++ (owX2_mendedBlocks ++ (owX5_state ++ (owX5_isFooled ++ (owX4_best ++ (owX5_best ++ (owX5_flag ++ (owX4_order ++ (owX2_hasAllOf ++ (owX0_plan ++ (owX0_choose ++ (owX0_measureHops ++ (owX0_fewestFrom ++ (owX0_ticksBy ++ (owX0_followFirst ++ (owX0_firstOfFewest ++ (owX0_stopAt ++ (owX5_order ++ (owX5_areBlocks ++ (owX5_countOf ++ (owX5_layRest ++ (owX5_takes ++ (owX5_nthOf ++ (owX5_follows ++ (owX4_reads ++ (owX5_reads ++ (owX4_cut ++ (owX2_cutOut ++ (owX2_moveBlock ++ (owX5_cut ++ (owX5_moves ++ (owX4_holds ++ (owX2_roomFor ++ (owX5_holds ++ (owX5_holdsOf ++ (owX4_most ++ (owX5_most ++ (owX4_stream ++ (owX4_isStream ++ (owX2_streamed ++ (owX2_timeWhenFilled ++ (owX5_stream ++ (owX5_isStream ++ (owX5_streams ++ (owX4_buffer ++ (owX5_buffer ++ (owX4_saw ++ (owX2_addSeen ++ (owX5_saw ++ (owX4_forget ++ (owX5_forget ++ (owX4_fits ++ (owX2_canBe ++ (owX5_fits ++ (owX5_canBe ++ (owX4_keep ++ (owX4_imageNumbered ++ (owX5_keep ++ (owX5_copies ++ (owX4_back ++ (owX5_back ++ (owX4_sheet ++ (owX4_sheetNumbered ++ (owX1_makeNew ++ (owX5_sheet ++ (owX5_isSheet ++ (owX4_lay ++ (owX1_faultOf ++ (owX1_isNothing ++ (owX1_put ++ (owX5_lay ++ (owX4_read ++ (owX1_cellAt ++ (owX5_read ++ (owX4_torn ++ (owX5_torn ++ (owX4_count ++ (owX2_markCount ++ (owX2_byteCount ++ (owX5_count ++ [])))))))))))))))))))))))))))))))))))))))))))))))))))))))))))))))))))))))))))))))))))))))))))))))))))))))))))))))))))))))))))))))))))))))))))))))))))))))))))))))))))))))))))))))))))))))))))))))))))))))))))))))))))))))))))))))))))))))))))))))))))))))))))
theorem gdL_law : (wsL_law).all goodWord = true := by decide +kernel
