set_option maxRecDepth 200000 in
theorem w_X0_28 : ∀ x ∈ [Jvm.Cond.methodLink RX0 28 yX0_runBody, .static yX0_runBody, .initialized yX0_runBody.cls, .code yX0_runBody cX0_runBody 7 (some .int)], x ∈ xBig := xBig_ix [(4, 129), (4, 130), (1, 6), (4, 131)] (by decide +kernel)
set_option maxRecDepth 200000 in
theorem w_X0_35 : ∀ x ∈ [Jvm.Cond.methodLink RX0 35 yX0_above, .static yX0_above, .initialized yX0_above.cls, .code yX0_above cX0_above 1 (some .int)], x ∈ xBig := xBig_ix [(2, 116), (2, 117), (1, 6), (2, 118)] (by decide +kernel)
set_option maxRecDepth 200000 in
theorem w_X0_42 : ∀ x ∈ [Jvm.Cond.methodLink RX0 42 yX0_bodyFor, .static yX0_bodyFor, .initialized yX0_bodyFor.cls, .code yX0_bodyFor cX0_bodyFor 5 (some .int)], x ∈ xBig := xBig_ix [(4, 132), (4, 133), (1, 6), (4, 134)] (by decide +kernel)
set_option maxRecDepth 200000 in
theorem w_X0_46 : ∀ x ∈ [Jvm.Cond.methodLink RX0 46 yX0_note, .instanceMethod yX0_note, .selects yX0_note.cls yX0_note yX0_note, .initialized yX0_note.cls, .code yX0_note cX0_note 2 none], x ∈ xBig := xBig_ix [(4, 137), (4, 139), (0, 31), (1, 6), (4, 140)] (by decide +kernel)
set_option maxRecDepth 200000 in
theorem w_X2_36 : ∀ x ∈ [Jvm.Cond.methodLink RX2 36 yX4_becomeAs, .instanceMethod yX4_becomeAs, .selects yX4_becomeAs.cls yX4_becomeAs yX4_becomeAs, .initialized yX4_becomeAs.cls, .code yX4_becomeAs cX4_becomeAs 3 none], x ∈ xBig := xBig_ix [(2, 233), (2, 234), (2, 235), (1, 2), (2, 236)] (by decide +kernel)
set_option maxRecDepth 200000 in
theorem w_X2_43 : ∀ x ∈ [Jvm.Cond.methodLink RX2 43 yX3_numberAt, .instanceMethod yX3_numberAt, .selects yX3_numberAt.cls yX3_numberAt yX3_numberAt, .initialized yX3_numberAt.cls, .code yX3_numberAt cX3_numberAt 2 (some .int)], x ∈ xBig := xBig_ix [(3, 9), (2, 152), (2, 153), (1, 7), (2, 154)] (by decide +kernel)
set_option maxRecDepth 200000 in
theorem w_X2_47 : ∀ x ∈ [Jvm.Cond.methodLink RX2 47 yX2_readWord, .instanceMethod yX2_readWord, .selects yX2_readWord.cls yX2_readWord yX2_readWord, .initialized yX2_readWord.cls, .code yX2_readWord cX2_readWord 5 (some .int)], x ∈ xBig := xBig_ix [(3, 14), (3, 16), (0, 5), (1, 5), (3, 17)] (by decide +kernel)
set_option maxRecDepth 200000 in
theorem w_X2_51 : ∀ x ∈ [Jvm.Cond.methodLink RX2 51 yX2_hasNoRoomFor, .instanceMethod yX2_hasNoRoomFor, .selects yX2_hasNoRoomFor.cls yX2_hasNoRoomFor yX2_hasNoRoomFor, .initialized yX2_hasNoRoomFor.cls, .code yX2_hasNoRoomFor cX2_hasNoRoomFor 2 (some .boolean)], x ∈ xBig := xBig_ix [(3, 85), (3, 87), (0, 8), (1, 5), (3, 88)] (by decide +kernel)
set_option maxRecDepth 200000 in
theorem w_X2_55 : ∀ x ∈ [Jvm.Cond.methodLink RX2 55 yX2_readGait, .instanceMethod yX2_readGait, .selects yX2_readGait.cls yX2_readGait yX2_readGait, .initialized yX2_readGait.cls, .code yX2_readGait cX2_readGait 4 (some .boolean)], x ∈ xBig := xBig_ix [(3, 91), (3, 93), (0, 9), (1, 5), (3, 94)] (by decide +kernel)
set_option maxRecDepth 200000 in
theorem w_X2_59 : ∀ x ∈ [Jvm.Cond.methodLink RX2 59 yX2_readWall, .instanceMethod yX2_readWall, .selects yX2_readWall.cls yX2_readWall yX2_readWall, .initialized yX2_readWall.cls, .code yX2_readWall cX2_readWall 2 (some .boolean)], x ∈ xBig := xBig_ix [(3, 117), (3, 119), (0, 15), (1, 5), (3, 120)] (by decide +kernel)
set_option maxRecDepth 200000 in
theorem w_X2_62 : ∀ x ∈ [Jvm.Cond.methodLink RX2 62 yX2_readOpen, .instanceMethod yX2_readOpen, .selects yX2_readOpen.cls yX2_readOpen yX2_readOpen, .initialized yX2_readOpen.cls, .code yX2_readOpen cX2_readOpen 2 (some .boolean)], x ∈ xBig := xBig_ix [(3, 123), (3, 125), (0, 16), (1, 5), (3, 126)] (by decide +kernel)
set_option maxRecDepth 200000 in
theorem w_X2_65 : ∀ x ∈ [Jvm.Cond.methodLink RX2 65 yX2_readWalker, .instanceMethod yX2_readWalker, .selects yX2_readWalker.cls yX2_readWalker yX2_readWalker, .initialized yX2_readWalker.cls, .code yX2_readWalker cX2_readWalker 6 (some .boolean)], x ∈ xBig := xBig_ix [(3, 127), (3, 129), (0, 17), (1, 5), (3, 130)] (by decide +kernel)
set_option maxRecDepth 200000 in
theorem w_X2_68 : ∀ x ∈ [Jvm.Cond.methodLink RX2 68 yX2_readBeats, .instanceMethod yX2_readBeats, .selects yX2_readBeats.cls yX2_readBeats yX2_readBeats, .initialized yX2_readBeats.cls, .code yX2_readBeats cX2_readBeats 2 (some .boolean)], x ∈ xBig := xBig_ix [(3, 133), (3, 135), (0, 18), (1, 5), (3, 136)] (by decide +kernel)
set_option maxRecDepth 200000 in
theorem w_X2_71 : ∀ x ∈ [Jvm.Cond.methodLink RX2 71 yX2_readSign, .instanceMethod yX2_readSign, .selects yX2_readSign.cls yX2_readSign yX2_readSign, .initialized yX2_readSign.cls, .code yX2_readSign cX2_readSign 2 (some .boolean)], x ∈ xBig := xBig_ix [(3, 99), (3, 101), (0, 11), (1, 5), (3, 102)] (by decide +kernel)
set_option maxRecDepth 200000 in
theorem w_X2_75 : ∀ x ∈ [Jvm.Cond.methodLink RX2 75 yX4_hasRoomForGait, .instanceMethod yX4_hasRoomForGait, .selects yX4_hasRoomForGait.cls yX4_hasRoomForGait yX4_hasRoomForGait, .initialized yX4_hasRoomForGait.cls, .code yX4_hasRoomForGait cX4_hasRoomForGait 1 (some .boolean)], x ∈ xBig := xBig_ix [(3, 89), (2, 160), (2, 161), (1, 2), (2, 162)] (by decide +kernel)
set_option maxRecDepth 200000 in
theorem w_X2_78 : ∀ x ∈ [Jvm.Cond.methodLink RX2 78 yX4_hasRoomForWalker, .instanceMethod yX4_hasRoomForWalker, .selects yX4_hasRoomForWalker.cls yX4_hasRoomForWalker yX4_hasRoomForWalker, .initialized yX4_hasRoomForWalker.cls, .code yX4_hasRoomForWalker cX4_hasRoomForWalker 1 (some .boolean)], x ∈ xBig := xBig_ix [(3, 90), (2, 193), (2, 194), (1, 2), (2, 195)] (by decide +kernel)
set_option maxRecDepth 200000 in
theorem w_X2_91 : ∀ x ∈ [Jvm.Cond.methodLink RX2 91 yX2_wordBy, .static yX2_wordBy, .initialized yX2_wordBy.cls, .code yX2_wordBy cX2_wordBy 1 (some (.object "java/lang/String"))], x ∈ xBig := xBig_ix [(3, 18), (3, 19), (1, 5), (3, 20)] (by decide +kernel)
set_option maxRecDepth 200000 in
theorem w_X2_95 : ∀ x ∈ [Jvm.Cond.methodLink RX2 95 yX2_countAlike, .instanceMethod yX2_countAlike, .selects yX2_countAlike.cls yX2_countAlike yX2_countAlike, .initialized yX2_countAlike.cls, .code yX2_countAlike cX2_countAlike 3 (some .int)], x ∈ xBig := xBig_ix [(3, 26), (3, 28), (0, 6), (1, 5), (3, 29)] (by decide +kernel)
set_option maxRecDepth 200000 in
theorem w_X2_110 : ∀ x ∈ [Jvm.Cond.methodLink RX2 110 yX2_letterAt, .instanceMethod yX2_letterAt, .selects yX2_letterAt.cls yX2_letterAt yX2_letterAt, .initialized yX2_letterAt.cls, .code yX2_letterAt cX2_letterAt 2 (some .int)], x ∈ xBig := xBig_ix [(3, 40), (3, 42), (0, 7), (1, 5), (3, 43)] (by decide +kernel)
set_option maxRecDepth 200000 in
theorem w_X2_117 : ∀ x ∈ [Jvm.Cond.methodLink RX2 117 yX2_digitHere, .instanceMethod yX2_digitHere, .selects yX2_digitHere.cls yX2_digitHere yX2_digitHere, .initialized yX2_digitHere.cls, .code yX2_digitHere cX2_digitHere 2 (some .int)], x ∈ xBig := xBig_ix [(3, 103), (3, 105), (0, 12), (1, 5), (3, 106)] (by decide +kernel)
set_option maxRecDepth 200000 in
theorem w_X2_120 : ∀ x ∈ [Jvm.Cond.methodLink RX2 120 yX2_noSuchNumber, .instanceMethod yX2_noSuchNumber, .selects yX2_noSuchNumber.cls yX2_noSuchNumber yX2_noSuchNumber, .initialized yX2_noSuchNumber.cls, .code yX2_noSuchNumber cX2_noSuchNumber 1 (some .int)], x ∈ xBig := xBig_ix [(3, 107), (3, 109), (0, 13), (1, 5), (3, 110)] (by decide +kernel)
set_option maxRecDepth 200000 in
theorem w_X2_123 : ∀ x ∈ [Jvm.Cond.methodLink RX2 123 yX2_readNumber, .instanceMethod yX2_readNumber, .selects yX2_readNumber.cls yX2_readNumber yX2_readNumber, .initialized yX2_readNumber.cls, .code yX2_readNumber cX2_readNumber 5 (some .int)], x ∈ xBig := xBig_ix [(3, 95), (3, 97), (0, 10), (1, 5), (3, 98)] (by decide +kernel)
set_option maxRecDepth 200000 in
theorem w_X2_126 : ∀ x ∈ [Jvm.Cond.methodLink RX2 126 yX2_stepHere, .instanceMethod yX2_stepHere, .selects yX2_stepHere.cls yX2_stepHere yX2_stepHere, .initialized yX2_stepHere.cls, .code yX2_stepHere cX2_stepHere 1 (some .int)], x ∈ xBig := xBig_ix [(3, 111), (3, 113), (0, 14), (1, 5), (3, 114)] (by decide +kernel)
set_option maxRecDepth 200000 in
theorem w_X2_129 : ∀ x ∈ [Jvm.Cond.methodLink RX2 129 yX1_withStep, .static yX1_withStep, .initialized yX1_withStep.cls, .code yX1_withStep cX1_withStep 3 (some .int)], x ∈ xBig := xBig_ix [(3, 115), (2, 157), (1, 3), (2, 158)] (by decide +kernel)
set_option maxRecDepth 200000 in
theorem w_X2_135 : ∀ x ∈ [Jvm.Cond.methodLink RX2 135 yX4_addGait, .instanceMethod yX4_addGait, .selects yX4_addGait.cls yX4_addGait yX4_addGait, .initialized yX4_addGait.cls, .code yX4_addGait cX4_addGait 5 (some .int)], x ∈ xBig := xBig_ix [(3, 116), (2, 164), (2, 165), (1, 2), (2, 166)] (by decide +kernel)
set_option maxRecDepth 200000 in
theorem w_X2_138 : ∀ x ∈ [Jvm.Cond.methodLink RX2 138 yX4_hasSomebodyAt, .instanceMethod yX4_hasSomebodyAt, .selects yX4_hasSomebodyAt.cls yX4_hasSomebodyAt yX4_hasSomebodyAt, .initialized yX4_hasSomebodyAt.cls, .code yX4_hasSomebodyAt cX4_hasSomebodyAt 3 (some .boolean)], x ∈ xBig := xBig_ix [(3, 121), (2, 213), (2, 214), (1, 2), (2, 215)] (by decide +kernel)
set_option maxRecDepth 200000 in
theorem w_X2_141 : ∀ x ∈ [Jvm.Cond.methodLink RX2 141 yX4_putWall, .instanceMethod yX4_putWall, .selects yX4_putWall.cls yX4_putWall yX4_putWall, .initialized yX4_putWall.cls, .code yX4_putWall cX4_putWall 5 none], x ∈ xBig := xBig_ix [(3, 122), (2, 217), (2, 218), (1, 2), (2, 219)] (by decide +kernel)
set_option maxRecDepth 200000 in
theorem w_X2_145 : ∀ x ∈ [Jvm.Cond.methodLink RX2 145 yX4_isWalled, .instanceMethod yX4_isWalled, .selects yX4_isWalled.cls yX4_isWalled yX4_isWalled, .initialized yX4_isWalled.cls, .code yX4_isWalled cX4_isWalled 2 (some .boolean)], x ∈ xBig := xBig_ix [(3, 131), (2, 189), (2, 190), (1, 2), (2, 191)] (by decide +kernel)
set_option maxRecDepth 200000 in
theorem w_X2_151 : ∀ x ∈ [Jvm.Cond.methodLink RX2 151 yX4_addWalker, .instanceMethod yX4_addWalker, .selects yX4_addWalker.cls yX4_addWalker yX4_addWalker, .initialized yX4_addWalker.cls, .code yX4_addWalker cX4_addWalker 7 (some .int)], x ∈ xBig := xBig_ix [(3, 132), (2, 197), (2, 198), (1, 2), (2, 199)] (by decide +kernel)
set_option maxRecDepth 200000 in
theorem w_X2_155 : ∀ x ∈ [Jvm.Cond.methodLink RX2 155 yX4_goBeats, .instanceMethod yX4_goBeats, .selects yX4_goBeats.cls yX4_goBeats yX4_goBeats, .initialized yX4_goBeats.cls, .code yX4_goBeats cX4_goBeats 4 (some .int)], x ∈ xBig := xBig_ix [(3, 137), (3, 138), (3, 139), (1, 2), (3, 140)] (by decide +kernel)
set_option maxRecDepth 200000 in
theorem w_X3_22 : ∀ x ∈ [Jvm.Cond.methodLink RX3 22 yX3_reaches, .instanceMethod yX3_reaches, .selects yX3_reaches.cls yX3_reaches yX3_reaches, .initialized yX3_reaches.cls, .code yX3_reaches cX3_reaches 2 (some .boolean)], x ∈ xBig := xBig_ix [(2, 58), (2, 51), (2, 52), (1, 7), (2, 53)] (by decide +kernel)
set_option maxRecDepth 200000 in
theorem w_X3_26 : ∀ x ∈ [Jvm.Cond.methodLink RX3 26 yX3_elementAt, .instanceMethod yX3_elementAt, .selects yX3_elementAt.cls yX3_elementAt yX3_elementAt, .initialized yX3_elementAt.cls, .code yX3_elementAt cX3_elementAt 2 (some .long)], x ∈ xBig := xBig_ix [(2, 155), (2, 83), (2, 84), (1, 7), (2, 85)] (by decide +kernel)
set_option maxRecDepth 200000 in
theorem w_X3_30 : ∀ x ∈ [Jvm.Cond.methodLink RX3 30 yX3_cutToSort, .instanceMethod yX3_cutToSort, .selects yX3_cutToSort.cls yX3_cutToSort yX3_cutToSort, .initialized yX3_cutToSort.cls, .code yX3_cutToSort cX3_cutToSort 3 (some .long)], x ∈ xBig := xBig_ix [(2, 59), (2, 61), (0, 2), (1, 7), (2, 62)] (by decide +kernel)
set_option maxRecDepth 200000 in
theorem w_X3_34 : ∀ x ∈ [Jvm.Cond.methodLink RX3 34 yX3_spans, .instanceMethod yX3_spans, .selects yX3_spans.cls yX3_spans yX3_spans, .initialized yX3_spans.cls, .code yX3_spans cX3_spans 3 (some .boolean)], x ∈ xBig := xBig_ix [(2, 71), (2, 73), (0, 3), (1, 7), (2, 74)] (by decide +kernel)
set_option maxRecDepth 200000 in
theorem w_X4_53 : ∀ x ∈ [Jvm.Cond.methodLink RX4 53 yX4_gaitBy, .instanceMethod yX4_gaitBy, .selects yX4_gaitBy.cls yX4_gaitBy yX4_gaitBy, .initialized yX4_gaitBy.cls, .code yX4_gaitBy cX4_gaitBy 3 (some (.object "AsTheLastHeMet$Gait"))], x ∈ xBig := xBig_ix [(2, 167), (2, 168), (2, 169), (1, 2), (2, 170)] (by decide +kernel)
set_option maxRecDepth 200000 in
theorem w_X4_57 : ∀ x ∈ [Jvm.Cond.methodLink RX4 57 yX1_becomeAs, .instanceMethod yX1_becomeAs, .selects yX1_becomeAs.cls yX1_becomeAs yX1_becomeAs, .initialized yX1_becomeAs.cls, .code yX1_becomeAs cX1_becomeAs 2 none], x ∈ xBig := xBig_ix [(2, 237), (2, 238), (2, 239), (1, 3), (3, 0)] (by decide +kernel)
set_option maxRecDepth 200000 in
theorem w_X4_61 : ∀ x ∈ [Jvm.Cond.methodLink RX4 61 yX4_takeWalkersOf, .instanceMethod yX4_takeWalkersOf, .selects yX4_takeWalkersOf.cls yX4_takeWalkersOf yX4_takeWalkersOf, .initialized yX4_takeWalkersOf.cls, .code yX4_takeWalkersOf cX4_takeWalkersOf 3 none], x ∈ xBig := xBig_ix [(3, 1), (3, 2), (3, 3), (1, 2), (3, 4)] (by decide +kernel)
set_option maxRecDepth 200000 in
theorem w_X4_65 : ∀ x ∈ [Jvm.Cond.methodLink RX4 65 yX4_who, .instanceMethod yX4_who, .selects yX4_who.cls yX4_who yX4_who, .initialized yX4_who.cls, .code yX4_who cX4_who 3 (some (.object "AsTheLastHeMet$Walker"))], x ∈ xBig := xBig_ix [(2, 125), (2, 110), (2, 111), (1, 2), (2, 112)] (by decide +kernel)
set_option maxRecDepth 200000 in
theorem w_X4_69 : ∀ x ∈ [Jvm.Cond.methodLink RX4 69 yX5_becomeAs, .instanceMethod yX5_becomeAs, .selects yX5_becomeAs.cls yX5_becomeAs yX5_becomeAs, .initialized yX5_becomeAs.cls, .code yX5_becomeAs cX5_becomeAs 2 none], x ∈ xBig := xBig_ix [(3, 5), (3, 6), (3, 7), (1, 4), (3, 8)] (by decide +kernel)
set_option maxRecDepth 200000 in
theorem w_X4_104 : ∀ x ∈ [Jvm.Cond.methodLink RX4 104 yX4_isWalled, .instanceMethod yX4_isWalled, .selects yX4_isWalled.cls yX4_isWalled yX4_isWalled, .initialized yX4_isWalled.cls, .code yX4_isWalled cX4_isWalled 2 (some .boolean)], x ∈ xBig := xBig_ix [(3, 153), (2, 189), (2, 190), (1, 2), (2, 191)] (by decide +kernel)
set_option maxRecDepth 200000 in
theorem w_X4_108 : ∀ x ∈ [Jvm.Cond.methodLink RX4 108 yX4_hasSomebodyAt, .instanceMethod yX4_hasSomebodyAt, .selects yX4_hasSomebodyAt.cls yX4_hasSomebodyAt yX4_hasSomebodyAt, .initialized yX4_hasSomebodyAt.cls, .code yX4_hasSomebodyAt cX4_hasSomebodyAt 3 (some .boolean)], x ∈ xBig := xBig_ix [(4, 43), (2, 213), (2, 214), (1, 2), (2, 215)] (by decide +kernel)
set_option maxRecDepth 200000 in
theorem w_X4_111 : ∀ x ∈ [Jvm.Cond.methodLink RX4 111 yX5_wouldTake, .instanceMethod yX5_wouldTake, .selects yX5_wouldTake.cls yX5_wouldTake yX5_wouldTake, .initialized yX5_wouldTake.cls, .code yX5_wouldTake cX5_wouldTake 2 (some .boolean)], x ∈ xBig := xBig_ix [(3, 182), (3, 183), (3, 184), (1, 4), (3, 185)] (by decide +kernel)
set_option maxRecDepth 200000 in
theorem w_X4_114 : ∀ x ∈ [Jvm.Cond.methodLink RX4 114 yX5_packed, .instanceMethod yX5_packed, .selects yX5_packed.cls yX5_packed yX5_packed, .initialized yX5_packed.cls, .code yX5_packed cX5_packed 1 (some .int)], x ∈ xBig := xBig_ix [(4, 7), (4, 8), (4, 9), (1, 4), (4, 10)] (by decide +kernel)
set_option maxRecDepth 200000 in
theorem w_X4_118 : ∀ x ∈ [Jvm.Cond.methodLink RX4 118 yX4_havers, .instanceMethod yX4_havers, .selects yX4_havers.cls yX4_havers yX4_havers, .initialized yX4_havers.cls, .code yX4_havers cX4_havers 4 (some .int)], x ∈ xBig := xBig_ix [(2, 126), (2, 127), (2, 128), (1, 2), (2, 129)] (by decide +kernel)
set_option maxRecDepth 200000 in
theorem w_X4_127 : ∀ x ∈ [Jvm.Cond.methodLink RX4 127 yX4_countOthers, .instanceMethod yX4_countOthers, .selects yX4_countOthers.cls yX4_countOthers yX4_countOthers, .initialized yX4_countOthers.cls, .code yX4_countOthers cX4_countOthers 7 (some .int)], x ∈ xBig := xBig_ix [(2, 136), (2, 138), (0, 4), (1, 2), (2, 139)] (by decide +kernel)
set_option maxRecDepth 200000 in
theorem w_X4_131 : ∀ x ∈ [Jvm.Cond.methodLink RX4 131 yX5_isBeside, .instanceMethod yX5_isBeside, .selects yX5_isBeside.cls yX5_isBeside yX5_isBeside, .initialized yX5_isBeside.cls, .code yX5_isBeside cX5_isBeside 4 (some .boolean)], x ∈ xBig := xBig_ix [(2, 140), (2, 141), (2, 142), (1, 4), (2, 143)] (by decide +kernel)
set_option maxRecDepth 200000 in
theorem w_X4_135 : ∀ x ∈ [Jvm.Cond.methodLink RX4 135 yX4_goBeat, .instanceMethod yX4_goBeat, .selects yX4_goBeat.cls yX4_goBeat yX4_goBeat, .initialized yX4_goBeat.cls, .code yX4_goBeat cX4_goBeat 4 (some .int)], x ∈ xBig := xBig_ix [(3, 141), (3, 142), (3, 143), (1, 2), (3, 144)] (by decide +kernel)
set_option maxRecDepth 200000 in
theorem w_X4_138 : ∀ x ∈ [Jvm.Cond.methodLink RX4 138 yX4_doStep, .instanceMethod yX4_doStep, .selects yX4_doStep.cls yX4_doStep yX4_doStep, .initialized yX4_doStep.cls, .code yX4_doStep cX4_doStep 5 none], x ∈ xBig := xBig_ix [(3, 145), (3, 147), (0, 19), (1, 2), (3, 148)] (by decide +kernel)
set_option maxRecDepth 200000 in
theorem w_X4_141 : ∀ x ∈ [Jvm.Cond.methodLink RX4 141 yX5_rememberHow, .instanceMethod yX5_rememberHow, .selects yX5_rememberHow.cls yX5_rememberHow yX5_rememberHow, .initialized yX5_rememberHow.cls, .code yX5_rememberHow cX5_rememberHow 1 none], x ∈ xBig := xBig_ix [(3, 166), (3, 167), (3, 168), (1, 4), (3, 169)] (by decide +kernel)
set_option maxRecDepth 200000 in
theorem w_X4_144 : ∀ x ∈ [Jvm.Cond.methodLink RX4 144 yX4_nextThere, .instanceMethod yX4_nextThere, .selects yX4_nextThere.cls yX4_nextThere yX4_nextThere, .initialized yX4_nextThere.cls, .code yX4_nextThere cX4_nextThere 5 (some .int)], x ∈ xBig := xBig_ix [(3, 170), (3, 172), (0, 20), (1, 2), (3, 173)] (by decide +kernel)
set_option maxRecDepth 200000 in
theorem w_X4_147 : ∀ x ∈ [Jvm.Cond.methodLink RX4 147 yX4_meetAt, .instanceMethod yX4_meetAt, .selects yX4_meetAt.cls yX4_meetAt yX4_meetAt, .initialized yX4_meetAt.cls, .code yX4_meetAt cX4_meetAt 4 none], x ∈ xBig := xBig_ix [(3, 174), (3, 176), (0, 21), (1, 2), (3, 177)] (by decide +kernel)
set_option maxRecDepth 200000 in
theorem w_X4_155 : ∀ x ∈ [Jvm.Cond.methodLink RX4 155 yX4_hearLoud, .instanceMethod yX4_hearLoud, .selects yX4_hearLoud.cls yX4_hearLoud yX4_hearLoud, .initialized yX4_hearLoud.cls, .code yX4_hearLoud cX4_hearLoud 4 none], x ∈ xBig := xBig_ix [(3, 190), (3, 192), (0, 22), (1, 2), (3, 193)] (by decide +kernel)
set_option maxRecDepth 200000 in
theorem w_X4_158 : ∀ x ∈ [Jvm.Cond.methodLink RX4 158 yX1_stepAt, .instanceMethod yX1_stepAt, .selects yX1_stepAt.cls yX1_stepAt yX1_stepAt, .initialized yX1_stepAt.cls, .code yX1_stepAt cX1_stepAt 2 (some .int)], x ∈ xBig := xBig_ix [(3, 149), (2, 181), (2, 182), (1, 3), (2, 183)] (by decide +kernel)
set_option maxRecDepth 200000 in
theorem w_X4_161 : ∀ x ∈ [Jvm.Cond.methodLink RX4 161 yX4_placeThatWay, .static yX4_placeThatWay, .initialized yX4_placeThatWay.cls, .code yX4_placeThatWay cX4_placeThatWay 3 (some .int)], x ∈ xBig := xBig_ix [(3, 150), (3, 151), (1, 2), (3, 152)] (by decide +kernel)
set_option maxRecDepth 200000 in
theorem w_X4_165 : ∀ x ∈ [Jvm.Cond.methodLink RX4 165 yX1_quartersOf, .instanceMethod yX1_quartersOf, .selects yX1_quartersOf.cls yX1_quartersOf yX1_quartersOf, .initialized yX1_quartersOf.cls, .code yX1_quartersOf cX1_quartersOf 3 (some .int)], x ∈ xBig := xBig_ix [(3, 154), (3, 155), (3, 156), (1, 3), (3, 157)] (by decide +kernel)
set_option maxRecDepth 200000 in
theorem w_X4_168 : ∀ x ∈ [Jvm.Cond.methodLink RX4 168 yX5_turn, .instanceMethod yX5_turn, .selects yX5_turn.cls yX5_turn yX5_turn, .initialized yX5_turn.cls, .code yX5_turn cX5_turn 2 none], x ∈ xBig := xBig_ix [(3, 158), (3, 159), (3, 160), (1, 4), (3, 161)] (by decide +kernel)
set_option maxRecDepth 200000 in
theorem w_X4_172 : ∀ x ∈ [Jvm.Cond.methodLink RX4 172 yX1_next, .instanceMethod yX1_next, .selects yX1_next.cls yX1_next yX1_next, .initialized yX1_next.cls, .code yX1_next cX1_next 2 (some .int)], x ∈ xBig := xBig_ix [(3, 162), (3, 163), (3, 164), (1, 3), (3, 165)] (by decide +kernel)
set_option maxRecDepth 200000 in
theorem w_X4_175 : ∀ x ∈ [Jvm.Cond.methodLink RX4 175 yX5_gives, .instanceMethod yX5_gives, .selects yX5_gives.cls yX5_gives yX5_gives, .initialized yX5_gives.cls, .code yX5_gives cX5_gives 1 (some .boolean)], x ∈ xBig := xBig_ix [(3, 178), (3, 179), (3, 180), (1, 4), (3, 181)] (by decide +kernel)
set_option maxRecDepth 200000 in
theorem w_X4_182 : ∀ x ∈ [Jvm.Cond.methodLink RX4 182 yX5_takeGaitOf, .instanceMethod yX5_takeGaitOf, .selects yX5_takeGaitOf.cls yX5_takeGaitOf yX5_takeGaitOf, .initialized yX5_takeGaitOf.cls, .code yX5_takeGaitOf cX5_takeGaitOf 2 none], x ∈ xBig := xBig_ix [(3, 186), (3, 187), (3, 188), (1, 4), (3, 189)] (by decide +kernel)
set_option maxRecDepth 200000 in
theorem w_X4_188 : ∀ x ∈ [Jvm.Cond.methodLink RX4 188 yX4_draw, .instanceMethod yX4_draw, .selects yX4_draw.cls yX4_draw yX4_draw, .initialized yX4_draw.cls, .code yX4_draw cX4_draw 2 (some .int)], x ∈ xBig := xBig_ix [(4, 94), (4, 96), (0, 29), (1, 2), (4, 97)] (by decide +kernel)
set_option maxRecDepth 200000 in
theorem w_X4_191 : ∀ x ∈ [Jvm.Cond.methodLink RX4 191 yX4_isFree, .instanceMethod yX4_isFree, .selects yX4_isFree.cls yX4_isFree yX4_isFree, .initialized yX4_isFree.cls, .code yX4_isFree cX4_isFree 2 (some .boolean)], x ∈ xBig := xBig_ix [(4, 99), (4, 40), (4, 41), (1, 2), (4, 42)] (by decide +kernel)
set_option maxRecDepth 200000 in
theorem w_X4_194 : ∀ x ∈ [Jvm.Cond.methodLink RX4 194 yX4_addWalker, .instanceMethod yX4_addWalker, .selects yX4_addWalker.cls yX4_addWalker yX4_addWalker, .initialized yX4_addWalker.cls, .code yX4_addWalker cX4_addWalker 7 (some .int)], x ∈ xBig := xBig_ix [(4, 100), (2, 197), (2, 198), (1, 2), (2, 199)] (by decide +kernel)
set_option maxRecDepth 200000 in
theorem w_X6_62 : ∀ x ∈ [Jvm.Cond.methodLink RX6 62 yX6_shelfBy, .instanceMethod yX6_shelfBy, .selects yX6_shelfBy.cls yX6_shelfBy yX6_shelfBy, .initialized yX6_shelfBy.cls, .code yX6_shelfBy cX6_shelfBy 2 (some (.object "AsTheLastHeMet$Shelf"))], x ∈ xBig := xBig_ix [(2, 23), (2, 25), (0, 0), (1, 1), (2, 26)] (by decide +kernel)
set_option maxRecDepth 200000 in
theorem w_X6_66 : ∀ x ∈ [Jvm.Cond.methodLink RX6 66 yX6_refuse, .instanceMethod yX6_refuse, .selects yX6_refuse.cls yX6_refuse yX6_refuse, .initialized yX6_refuse.cls, .code yX6_refuse cX6_refuse 3 (some .int)], x ∈ xBig := xBig_ix [(2, 27), (2, 29), (0, 1), (1, 1), (2, 30)] (by decide +kernel)
set_option maxRecDepth 200000 in
theorem w_X6_70 : ∀ x ∈ [Jvm.Cond.methodLink RX6 70 yX3_beginRow, .instanceMethod yX3_beginRow, .selects yX3_beginRow.cls yX3_beginRow yX3_beginRow, .initialized yX3_beginRow.cls, .code yX3_beginRow cX3_beginRow 4 none], x ∈ xBig := xBig_ix [(2, 31), (2, 32), (2, 33), (1, 7), (2, 34)] (by decide +kernel)
set_option maxRecDepth 200000 in
theorem w_X6_74 : ∀ x ∈ [Jvm.Cond.methodLink RX6 74 yX6_whyNoRow, .static yX6_whyNoRow, .initialized yX6_whyNoRow.cls, .code yX6_whyNoRow cX6_whyNoRow 1 (some .int)], x ∈ xBig := xBig_ix [(2, 39), (2, 40), (1, 1), (2, 41)] (by decide +kernel)
set_option maxRecDepth 200000 in
theorem w_X6_78 : ∀ x ∈ [Jvm.Cond.methodLink RX6 78 yX3_reaches, .instanceMethod yX3_reaches, .selects yX3_reaches.cls yX3_reaches yX3_reaches, .initialized yX3_reaches.cls, .code yX3_reaches cX3_reaches 2 (some .boolean)], x ∈ xBig := xBig_ix [(2, 50), (2, 51), (2, 52), (1, 7), (2, 53)] (by decide +kernel)
set_option maxRecDepth 200000 in
theorem w_X6_82 : ∀ x ∈ [Jvm.Cond.methodLink RX6 82 yX3_put, .instanceMethod yX3_put, .selects yX3_put.cls yX3_put yX3_put, .initialized yX3_put.cls, .code yX3_put cX3_put 4 none], x ∈ xBig := xBig_ix [(2, 54), (2, 55), (2, 56), (1, 7), (2, 57)] (by decide +kernel)
set_option maxRecDepth 200000 in
theorem w_X6_86 : ∀ x ∈ [Jvm.Cond.methodLink RX6 86 yX3_hasRow, .instanceMethod yX3_hasRow, .selects yX3_hasRow.cls yX3_hasRow yX3_hasRow, .initialized yX3_hasRow.cls, .code yX3_hasRow cX3_hasRow 1 (some .boolean)], x ∈ xBig := xBig_ix [(2, 46), (2, 47), (2, 48), (1, 7), (2, 49)] (by decide +kernel)
set_option maxRecDepth 200000 in
theorem w_X6_90 : ∀ x ∈ [Jvm.Cond.methodLink RX6 90 yX3_hasWalker, .instanceMethod yX3_hasWalker, .selects yX3_hasWalker.cls yX3_hasWalker yX3_hasWalker, .initialized yX3_hasWalker.cls, .code yX3_hasWalker cX3_hasWalker 1 (some .boolean)], x ∈ xBig := xBig_ix [(2, 42), (2, 43), (2, 44), (1, 7), (2, 45)] (by decide +kernel)
set_option maxRecDepth 200000 in
theorem w_X6_96 : ∀ x ∈ [Jvm.Cond.methodLink RX6 96 yX3_takeOver, .instanceMethod yX3_takeOver, .selects yX3_takeOver.cls yX3_takeOver yX3_takeOver, .initialized yX3_takeOver.cls, .code yX3_takeOver cX3_takeOver 5 (some .boolean)], x ∈ xBig := xBig_ix [(2, 67), (2, 68), (2, 69), (1, 7), (2, 70)] (by decide +kernel)
set_option maxRecDepth 200000 in
theorem w_X6_100 : ∀ x ∈ [Jvm.Cond.methodLink RX6 100 yX3_elementAt, .instanceMethod yX3_elementAt, .selects yX3_elementAt.cls yX3_elementAt yX3_elementAt, .initialized yX3_elementAt.cls, .code yX3_elementAt cX3_elementAt 2 (some .long)], x ∈ xBig := xBig_ix [(2, 82), (2, 83), (2, 84), (1, 7), (2, 85)] (by decide +kernel)
set_option maxRecDepth 200000 in
theorem w_X6_104 : ∀ x ∈ [Jvm.Cond.methodLink RX6 104 yX4_hasWalker, .instanceMethod yX4_hasWalker, .selects yX4_hasWalker.cls yX4_hasWalker yX4_hasWalker, .initialized yX4_hasWalker.cls, .code yX4_hasWalker cX4_hasWalker 2 (some .boolean)], x ∈ xBig := xBig_ix [(2, 90), (2, 91), (2, 92), (1, 2), (2, 93)] (by decide +kernel)
set_option maxRecDepth 200000 in
theorem w_X6_106 : ∀ x ∈ [Jvm.Cond.methodLink RX6 106 yX3_hold, .instanceMethod yX3_hold, .selects yX3_hold.cls yX3_hold yX3_hold, .initialized yX3_hold.cls, .code yX3_hold cX3_hold 2 none], x ∈ xBig := xBig_ix [(2, 94), (2, 95), (2, 96), (1, 7), (2, 97)] (by decide +kernel)
set_option maxRecDepth 200000 in
theorem w_X6_110 : ∀ x ∈ [Jvm.Cond.methodLink RX6 110 yX6_isUpTo, .static yX6_isUpTo, .initialized yX6_isUpTo.cls, .code yX6_isUpTo cX6_isUpTo 2 (some .boolean)], x ∈ xBig := xBig_ix [(2, 106), (2, 107), (1, 1), (2, 108)] (by decide +kernel)
set_option maxRecDepth 200000 in
theorem w_X6_114 : ∀ x ∈ [Jvm.Cond.methodLink RX6 114 yX4_who, .instanceMethod yX4_who, .selects yX4_who.cls yX4_who yX4_who, .initialized yX4_who.cls, .code yX4_who cX4_who 3 (some (.object "AsTheLastHeMet$Walker"))], x ∈ xBig := xBig_ix [(2, 109), (2, 110), (2, 111), (1, 2), (2, 112)] (by decide +kernel)
set_option maxRecDepth 200000 in
theorem w_X6_123 : ∀ x ∈ [Jvm.Cond.methodLink RX6 123 yX0_isUnder, .static yX0_isUnder, .initialized yX0_isUnder.cls, .code yX0_isUnder cX0_isUnder 4 (some .boolean)], x ∈ xBig := xBig_ix [(2, 113), (2, 114), (1, 6), (2, 115)] (by decide +kernel)
set_option maxRecDepth 200000 in
theorem w_X6_126 : ∀ x ∈ [Jvm.Cond.methodLink RX6 126 yX4_said, .instanceMethod yX4_said, .selects yX4_said.cls yX4_said yX4_said, .initialized yX4_said.cls, .code yX4_said cX4_said 4 (some .int)], x ∈ xBig := xBig_ix [(2, 121), (2, 122), (2, 123), (1, 2), (2, 124)] (by decide +kernel)
set_option maxRecDepth 200000 in
theorem w_X6_133 : ∀ x ∈ [Jvm.Cond.methodLink RX6 133 yX3_numberAt, .instanceMethod yX3_numberAt, .selects yX3_numberAt.cls yX3_numberAt yX3_numberAt, .initialized yX3_numberAt.cls, .code yX3_numberAt cX3_numberAt 2 (some .int)], x ∈ xBig := xBig_ix [(2, 151), (2, 152), (2, 153), (1, 7), (2, 154)] (by decide +kernel)
set_option maxRecDepth 200000 in
theorem w_X6_136 : ∀ x ∈ [Jvm.Cond.methodLink RX6 136 yX1_withStep, .static yX1_withStep, .initialized yX1_withStep.cls, .code yX1_withStep cX1_withStep 3 (some .int)], x ∈ xBig := xBig_ix [(2, 156), (2, 157), (1, 3), (2, 158)] (by decide +kernel)
set_option maxRecDepth 200000 in
theorem w_X6_142 : ∀ x ∈ [Jvm.Cond.methodLink RX6 142 yX4_hasRoomForGait, .instanceMethod yX4_hasRoomForGait, .selects yX4_hasRoomForGait.cls yX4_hasRoomForGait yX4_hasRoomForGait, .initialized yX4_hasRoomForGait.cls, .code yX4_hasRoomForGait cX4_hasRoomForGait 1 (some .boolean)], x ∈ xBig := xBig_ix [(2, 159), (2, 160), (2, 161), (1, 2), (2, 162)] (by decide +kernel)
set_option maxRecDepth 200000 in
theorem w_X6_145 : ∀ x ∈ [Jvm.Cond.methodLink RX6 145 yX4_addGait, .instanceMethod yX4_addGait, .selects yX4_addGait.cls yX4_addGait yX4_addGait, .initialized yX4_addGait.cls, .code yX4_addGait cX4_addGait 5 (some .int)], x ∈ xBig := xBig_ix [(2, 163), (2, 164), (2, 165), (1, 2), (2, 166)] (by decide +kernel)
set_option maxRecDepth 200000 in
theorem w_X6_148 : ∀ x ∈ [Jvm.Cond.methodLink RX6 148 yX4_gaitBy, .instanceMethod yX4_gaitBy, .selects yX4_gaitBy.cls yX4_gaitBy yX4_gaitBy, .initialized yX4_gaitBy.cls, .code yX4_gaitBy cX4_gaitBy 3 (some (.object "AsTheLastHeMet$Gait"))], x ∈ xBig := xBig_ix [(2, 175), (2, 168), (2, 169), (1, 2), (2, 170)] (by decide +kernel)
set_option maxRecDepth 200000 in
theorem w_X6_152 : ∀ x ∈ [Jvm.Cond.methodLink RX6 152 yX4_hasGait, .instanceMethod yX4_hasGait, .selects yX4_hasGait.cls yX4_hasGait yX4_hasGait, .initialized yX4_hasGait.cls, .code yX4_hasGait cX4_hasGait 2 (some .boolean)], x ∈ xBig := xBig_ix [(2, 176), (2, 177), (2, 178), (1, 2), (2, 179)] (by decide +kernel)
set_option maxRecDepth 200000 in
theorem w_X6_161 : ∀ x ∈ [Jvm.Cond.methodLink RX6 161 yX1_stepAt, .instanceMethod yX1_stepAt, .selects yX1_stepAt.cls yX1_stepAt yX1_stepAt, .initialized yX1_stepAt.cls, .code yX1_stepAt cX1_stepAt 2 (some .int)], x ∈ xBig := xBig_ix [(2, 180), (2, 181), (2, 182), (1, 3), (2, 183)] (by decide +kernel)
set_option maxRecDepth 200000 in
theorem w_X6_164 : ∀ x ∈ [Jvm.Cond.methodLink RX6 164 yX4_isWalled, .instanceMethod yX4_isWalled, .selects yX4_isWalled.cls yX4_isWalled yX4_isWalled, .initialized yX4_isWalled.cls, .code yX4_isWalled cX4_isWalled 2 (some .boolean)], x ∈ xBig := xBig_ix [(2, 188), (2, 189), (2, 190), (1, 2), (2, 191)] (by decide +kernel)
set_option maxRecDepth 200000 in
theorem w_X6_167 : ∀ x ∈ [Jvm.Cond.methodLink RX6 167 yX4_hasRoomForWalker, .instanceMethod yX4_hasRoomForWalker, .selects yX4_hasRoomForWalker.cls yX4_hasRoomForWalker yX4_hasRoomForWalker, .initialized yX4_hasRoomForWalker.cls, .code yX4_hasRoomForWalker cX4_hasRoomForWalker 1 (some .boolean)], x ∈ xBig := xBig_ix [(2, 192), (2, 193), (2, 194), (1, 2), (2, 195)] (by decide +kernel)
set_option maxRecDepth 200000 in
theorem w_X6_170 : ∀ x ∈ [Jvm.Cond.methodLink RX6 170 yX4_addWalker, .instanceMethod yX4_addWalker, .selects yX4_addWalker.cls yX4_addWalker yX4_addWalker, .initialized yX4_addWalker.cls, .code yX4_addWalker cX4_addWalker 7 (some .int)], x ∈ xBig := xBig_ix [(2, 196), (2, 197), (2, 198), (1, 2), (2, 199)] (by decide +kernel)
set_option maxRecDepth 200000 in
theorem w_X6_174 : ∀ x ∈ [Jvm.Cond.methodLink RX6 174 yX5_told, .instanceMethod yX5_told, .selects yX5_told.cls yX5_told yX5_told, .initialized yX5_told.cls, .code yX5_told cX5_told 2 (some .int)], x ∈ xBig := xBig_ix [(2, 204), (2, 205), (2, 206), (1, 4), (2, 207)] (by decide +kernel)
set_option maxRecDepth 200000 in
theorem w_X6_177 : ∀ x ∈ [Jvm.Cond.methodLink RX6 177 yX4_hasSomebodyAt, .instanceMethod yX4_hasSomebodyAt, .selects yX4_hasSomebodyAt.cls yX4_hasSomebodyAt yX4_hasSomebodyAt, .initialized yX4_hasSomebodyAt.cls, .code yX4_hasSomebodyAt cX4_hasSomebodyAt 3 (some .boolean)], x ∈ xBig := xBig_ix [(2, 212), (2, 213), (2, 214), (1, 2), (2, 215)] (by decide +kernel)
set_option maxRecDepth 200000 in
theorem w_X6_180 : ∀ x ∈ [Jvm.Cond.methodLink RX6 180 yX4_putWall, .instanceMethod yX4_putWall, .selects yX4_putWall.cls yX4_putWall yX4_putWall, .initialized yX4_putWall.cls, .code yX4_putWall cX4_putWall 5 none], x ∈ xBig := xBig_ix [(2, 216), (2, 217), (2, 218), (1, 2), (2, 219)] (by decide +kernel)
set_option maxRecDepth 200000 in
theorem w_X6_184 : ∀ x ∈ [Jvm.Cond.methodLink RX6 184 yX2_begin, .instanceMethod yX2_begin, .selects yX2_begin.cls yX2_begin yX2_begin, .initialized yX2_begin.cls, .code yX2_begin cX2_begin 4 none], x ∈ xBig := xBig_ix [(2, 229), (2, 230), (2, 231), (1, 5), (2, 232)] (by decide +kernel)
set_option maxRecDepth 200000 in
theorem w_X6_188 : ∀ x ∈ [Jvm.Cond.methodLink RX6 188 yX2_readItem, .instanceMethod yX2_readItem, .selects yX2_readItem.cls yX2_readItem yX2_readItem, .initialized yX2_readItem.cls, .code yX2_readItem cX2_readItem 4 (some .boolean)], x ∈ xBig := xBig_ix [(3, 10), (3, 11), (3, 12), (1, 5), (3, 13)] (by decide +kernel)
set_option maxRecDepth 200000 in
theorem w_X6_200 : ∀ x ∈ [Jvm.Cond.methodLink RX6 200 yX4_becomeAs, .instanceMethod yX4_becomeAs, .selects yX4_becomeAs.cls yX4_becomeAs yX4_becomeAs, .initialized yX4_becomeAs.cls, .code yX4_becomeAs cX4_becomeAs 3 none], x ∈ xBig := xBig_ix [(3, 194), (2, 234), (2, 235), (1, 2), (2, 236)] (by decide +kernel)
set_option maxRecDepth 200000 in
theorem w_X6_204 : ∀ x ∈ [Jvm.Cond.methodLink RX6 204 yX6_whyNotTold, .instanceMethod yX6_whyNotTold, .selects yX6_whyNotTold.cls yX6_whyNotTold yX6_whyNotTold, .initialized yX6_whyNotTold.cls, .code yX6_whyNotTold cX6_whyNotTold 4 (some .int)], x ∈ xBig := xBig_ix [(3, 204), (3, 206), (0, 23), (1, 1), (3, 207)] (by decide +kernel)
set_option maxRecDepth 200000 in
theorem w_X6_207 : ∀ x ∈ [Jvm.Cond.methodLink RX6 207 yX6_think, .instanceMethod yX6_think, .selects yX6_think.cls yX6_think yX6_think, .initialized yX6_think.cls, .code yX6_think cX6_think 2 (some .int)], x ∈ xBig := xBig_ix [(3, 208), (3, 210), (0, 24), (1, 1), (3, 211)] (by decide +kernel)
set_option maxRecDepth 200000 in
theorem w_X6_210 : ∀ x ∈ [Jvm.Cond.methodLink RX6 210 yX4_havers, .instanceMethod yX4_havers, .selects yX4_havers.cls yX4_havers yX4_havers, .initialized yX4_havers.cls, .code yX4_havers cX4_havers 4 (some .int)], x ∈ xBig := xBig_ix [(3, 217), (2, 127), (2, 128), (1, 2), (2, 129)] (by decide +kernel)
set_option maxRecDepth 200000 in
theorem w_X6_219 : ∀ x ∈ [Jvm.Cond.methodLink RX6 219 yX4_goBeat, .instanceMethod yX4_goBeat, .selects yX4_goBeat.cls yX4_goBeat yX4_goBeat, .initialized yX4_goBeat.cls, .code yX4_goBeat cX4_goBeat 4 (some .int)], x ∈ xBig := xBig_ix [(3, 226), (3, 142), (3, 143), (1, 2), (3, 144)] (by decide +kernel)
set_option maxRecDepth 200000 in
theorem w_X6_224 : ∀ x ∈ [Jvm.Cond.methodLink RX6 224 yX4_packed, .instanceMethod yX4_packed, .selects yX4_packed.cls yX4_packed yX4_packed, .initialized yX4_packed.cls, .code yX4_packed cX4_packed 5 (some .long)], x ∈ xBig := xBig_ix [(4, 3), (4, 4), (4, 5), (1, 2), (4, 6)] (by decide +kernel)
set_option maxRecDepth 200000 in
theorem w_X6_227 : ∀ x ∈ [Jvm.Cond.methodLink RX6 227 yX6_sameBefore, .instanceMethod yX6_sameBefore, .selects yX6_sameBefore.cls yX6_sameBefore yX6_sameBefore, .initialized yX6_sameBefore.cls, .code yX6_sameBefore cX6_sameBefore 3 (some .int)], x ∈ xBig := xBig_ix [(4, 11), (4, 13), (0, 25), (1, 1), (4, 14)] (by decide +kernel)
set_option maxRecDepth 200000 in
theorem w_X6_230 : ∀ x ∈ [Jvm.Cond.methodLink RX6 230 yX4_keepOnly, .instanceMethod yX4_keepOnly, .selects yX4_keepOnly.cls yX4_keepOnly yX4_keepOnly, .initialized yX4_keepOnly.cls, .code yX4_keepOnly cX4_keepOnly 2 none], x ∈ xBig := xBig_ix [(4, 19), (4, 20), (4, 21), (1, 2), (4, 22)] (by decide +kernel)
set_option maxRecDepth 200000 in
theorem w_X6_233 : ∀ x ∈ [Jvm.Cond.methodLink RX6 233 yX4_goBeats, .instanceMethod yX4_goBeats, .selects yX4_goBeats.cls yX4_goBeats yX4_goBeats, .initialized yX4_goBeats.cls, .code yX4_goBeats cX4_goBeats 4 (some .int)], x ∈ xBig := xBig_ix [(3, 212), (3, 138), (3, 139), (1, 2), (3, 140)] (by decide +kernel)
set_option maxRecDepth 200000 in
theorem w_X6_236 : ∀ x ∈ [Jvm.Cond.methodLink RX6 236 yX4_haveAll, .instanceMethod yX4_haveAll, .selects yX4_haveAll.cls yX4_haveAll yX4_haveAll, .initialized yX4_haveAll.cls, .code yX4_haveAll cX4_haveAll 3 (some .boolean)], x ∈ xBig := xBig_ix [(4, 27), (4, 28), (4, 29), (1, 2), (4, 30)] (by decide +kernel)
set_option maxRecDepth 200000 in
theorem w_X6_239 : ∀ x ∈ [Jvm.Cond.methodLink RX6 239 yX4_isBarred, .instanceMethod yX4_isBarred, .selects yX4_isBarred.cls yX4_isBarred yX4_isBarred, .initialized yX4_isBarred.cls, .code yX4_isBarred cX4_isBarred 3 (some .boolean)], x ∈ xBig := xBig_ix [(4, 35), (4, 36), (4, 37), (1, 2), (4, 38)] (by decide +kernel)
set_option maxRecDepth 200000 in
theorem w_X6_242 : ∀ x ∈ [Jvm.Cond.methodLink RX6 242 yX4_isFree, .instanceMethod yX4_isFree, .selects yX4_isFree.cls yX4_isFree yX4_isFree, .initialized yX4_isFree.cls, .code yX4_isFree cX4_isFree 2 (some .boolean)], x ∈ xBig := xBig_ix [(4, 39), (4, 40), (4, 41), (1, 2), (4, 42)] (by decide +kernel)
set_option maxRecDepth 200000 in
theorem w_X6_245 : ∀ x ∈ [Jvm.Cond.methodLink RX6 245 yX6_beatOfHire, .instanceMethod yX6_beatOfHire, .selects yX6_beatOfHire.cls yX6_beatOfHire yX6_beatOfHire, .initialized yX6_beatOfHire.cls, .code yX6_beatOfHire cX6_beatOfHire 5 (some .int)], x ∈ xBig := xBig_ix [(4, 44), (4, 46), (0, 26), (1, 1), (4, 47)] (by decide +kernel)
set_option maxRecDepth 200000 in
theorem w_X6_248 : ∀ x ∈ [Jvm.Cond.methodLink RX6 248 yX6_whyNoSights, .instanceMethod yX6_whyNoSights, .selects yX6_whyNoSights.cls yX6_whyNoSights yX6_whyNoSights, .initialized yX6_whyNoSights.cls, .code yX6_whyNoSights cX6_whyNoSights 4 (some .int)], x ∈ xBig := xBig_ix [(4, 53), (4, 55), (0, 27), (1, 1), (4, 56)] (by decide +kernel)
set_option maxRecDepth 200000 in
theorem w_X6_252 : ∀ x ∈ [Jvm.Cond.methodLink RX6 252 yX6_seen, .instanceMethod yX6_seen, .selects yX6_seen.cls yX6_seen yX6_seen, .initialized yX6_seen.cls, .code yX6_seen cX6_seen 7 (some .int)], x ∈ xBig := xBig_ix [(4, 57), (4, 59), (0, 28), (1, 1), (4, 60)] (by decide +kernel)
set_option maxRecDepth 200000 in
theorem w_X6_258 : ∀ x ∈ [Jvm.Cond.methodLink RX6 258 yX4_beginOtherwise, .instanceMethod yX4_beginOtherwise, .selects yX4_beginOtherwise.cls yX4_beginOtherwise yX4_beginOtherwise, .initialized yX4_beginOtherwise.cls, .code yX4_beginOtherwise cX4_beginOtherwise 5 none], x ∈ xBig := xBig_ix [(4, 70), (4, 71), (4, 72), (1, 2), (4, 73)] (by decide +kernel)
set_option maxRecDepth 200000 in
theorem w_X6_261 : ∀ x ∈ [Jvm.Cond.methodLink RX6 261 yX4_firstWith, .instanceMethod yX4_firstWith, .selects yX4_firstWith.cls yX4_firstWith yX4_firstWith, .initialized yX4_firstWith.cls, .code yX4_firstWith cX4_firstWith 3 (some .int)], x ∈ xBig := xBig_ix [(4, 78), (4, 79), (4, 80), (1, 2), (4, 81)] (by decide +kernel)
set_option maxRecDepth 200000 in
theorem w_X6_264 : ∀ x ∈ [Jvm.Cond.methodLink RX6 264 yX4_drawStranger, .instanceMethod yX4_drawStranger, .selects yX4_drawStranger.cls yX4_drawStranger yX4_drawStranger, .initialized yX4_drawStranger.cls, .code yX4_drawStranger cX4_drawStranger 4 (some .boolean)], x ∈ xBig := xBig_ix [(4, 90), (4, 91), (4, 92), (1, 2), (4, 93)] (by decide +kernel)
set_option maxRecDepth 200000 in
theorem w_X6_267 : ∀ x ∈ [Jvm.Cond.methodLink RX6 267 yX6_emptyShelvesOfTheGone, .instanceMethod yX6_emptyShelvesOfTheGone, .selects yX6_emptyShelvesOfTheGone.cls yX6_emptyShelvesOfTheGone yX6_emptyShelvesOfTheGone, .initialized yX6_emptyShelvesOfTheGone.cls, .code yX6_emptyShelvesOfTheGone cX6_emptyShelvesOfTheGone 3 none], x ∈ xBig := xBig_ix [(4, 105), (4, 107), (0, 30), (1, 1), (4, 108)] (by decide +kernel)
set_option maxRecDepth 200000 in
theorem w_X6_276 : ∀ x ∈ [Jvm.Cond.methodLink RX6 276 yX0_forget, .instanceMethod yX0_forget, .selects yX0_forget.cls yX0_forget yX0_forget, .initialized yX0_forget.cls, .code yX0_forget cX0_forget 1 none], x ∈ xBig := xBig_ix [(4, 121), (4, 122), (4, 123), (1, 6), (4, 124)] (by decide +kernel)
set_option maxRecDepth 200000 in
theorem w_X6_282 : ∀ x ∈ [Jvm.Cond.methodLink RX6 282 yX0_perform, .instanceMethod yX0_perform, .selects yX0_perform.cls yX0_perform yX0_perform, .initialized yX0_perform.cls, .code yX0_perform cX0_perform 6 (some .int)], x ∈ xBig := xBig_ix [(4, 125), (4, 126), (4, 127), (1, 6), (4, 128)] (by decide +kernel)
set_option maxRecDepth 200000 in
theorem w_X6_285 : ∀ x ∈ [Jvm.Cond.methodLink RX6 285 yX0_bodyAt, .instanceMethod yX0_bodyAt, .selects yX0_bodyAt.cls yX0_bodyAt yX0_bodyAt, .initialized yX0_bodyAt.cls, .code yX0_bodyAt cX0_bodyAt 2 (some .int)], x ∈ xBig := xBig_ix [(4, 145), (4, 146), (4, 147), (1, 6), (4, 148)] (by decide +kernel)
set_option maxRecDepth 200000 in
theorem w_X6_312 : ∀ x ∈ [Jvm.Cond.methodLink RX6 312 yX4_hasSomebodySo, .instanceMethod yX4_hasSomebodySo, .selects yX4_hasSomebodySo.cls yX4_hasSomebodySo yX4_hasSomebodySo, .initialized yX4_hasSomebodySo.cls, .code yX4_hasSomebodySo cX4_hasSomebodySo 4 (some .boolean)], x ∈ xBig := xBig_ix [(4, 62), (4, 63), (4, 64), (1, 2), (4, 65)] (by decide +kernel)
set_option maxRecDepth 200000 in
theorem w_X6_315 : ∀ x ∈ [Jvm.Cond.methodLink RX6 315 yX4_takeWalkersOf, .instanceMethod yX4_takeWalkersOf, .selects yX4_takeWalkersOf.cls yX4_takeWalkersOf yX4_takeWalkersOf, .initialized yX4_takeWalkersOf.cls, .code yX4_takeWalkersOf cX4_takeWalkersOf 3 none], x ∈ xBig := xBig_ix [(4, 48), (3, 2), (3, 3), (1, 2), (3, 4)] (by decide +kernel)
set_option maxRecDepth 200000 in
theorem w_X7_132 : ∀ x ∈ [Jvm.Cond.methodLink RX7 132 yX7_isShelf, .instanceMethod yX7_isShelf, .selects yX7_isShelf.cls yX7_isShelf yX7_isShelf, .initialized yX7_isShelf.cls, .code yX7_isShelf cX7_isShelf 2 (some .boolean)], x ∈ xBig := xBig_ix [(5, 88), (5, 90), (0, 32), (1, 8), (5, 91)] (by decide +kernel)
set_option maxRecDepth 200000 in
theorem w_X7_136 : ∀ x ∈ [Jvm.Cond.methodLink RX7 136 yX7_no, .instanceMethod yX7_no, .selects yX7_no.cls yX7_no yX7_no, .initialized yX7_no.cls, .code yX7_no cX7_no 2 (some .int)], x ∈ xBig := xBig_ix [(5, 92), (5, 94), (0, 33), (1, 8), (5, 95)] (by decide +kernel)
set_option maxRecDepth 200000 in
theorem w_X7_140 : ∀ x ∈ [Jvm.Cond.methodLink RX7 140 yX7_isWalker, .instanceMethod yX7_isWalker, .selects yX7_isWalker.cls yX7_isWalker yX7_isWalker, .initialized yX7_isWalker.cls, .code yX7_isWalker cX7_isWalker 2 (some .boolean)], x ∈ xBig := xBig_ix [(5, 112), (5, 114), (0, 34), (1, 8), (5, 115)] (by decide +kernel)
set_option maxRecDepth 200000 in
theorem w_X7_143 : ∀ x ∈ [Jvm.Cond.methodLink RX7 143 yX7_isTaker, .instanceMethod yX7_isTaker, .selects yX7_isTaker.cls yX7_isTaker yX7_isTaker, .initialized yX7_isTaker.cls, .code yX7_isTaker cX7_isTaker 2 (some .boolean)], x ∈ xBig := xBig_ix [(5, 124), (5, 126), (0, 35), (1, 8), (5, 127)] (by decide +kernel)
set_option maxRecDepth 200000 in
theorem w_X7_146 : ∀ x ∈ [Jvm.Cond.methodLink RX7 146 yX7_isBeside, .instanceMethod yX7_isBeside, .selects yX7_isBeside.cls yX7_isBeside yX7_isBeside, .initialized yX7_isBeside.cls, .code yX7_isBeside cX7_isBeside 5 (some .boolean)], x ∈ xBig := xBig_ix [(5, 128), (5, 130), (0, 36), (1, 8), (5, 131)] (by decide +kernel)
set_option maxRecDepth 200000 in
theorem w_X7_150 : ∀ x ∈ [Jvm.Cond.methodLink RX7 150 yX7_wanted, .instanceMethod yX7_wanted, .selects yX7_wanted.cls yX7_wanted yX7_wanted, .initialized yX7_wanted.cls, .code yX7_wanted cX7_wanted 2 (some .int)], x ∈ xBig := xBig_ix [(5, 140), (5, 142), (0, 38), (1, 8), (5, 143)] (by decide +kernel)
set_option maxRecDepth 200000 in
theorem w_X7_153 : ∀ x ∈ [Jvm.Cond.methodLink RX7 153 yX7_bars, .instanceMethod yX7_bars, .selects yX7_bars.cls yX7_bars yX7_bars, .initialized yX7_bars.cls, .code yX7_bars cX7_bars 5 (some .int)], x ∈ xBig := xBig_ix [(5, 136), (5, 138), (0, 37), (1, 8), (5, 139)] (by decide +kernel)
set_option maxRecDepth 200000 in
theorem w_X7_157 : ∀ x ∈ [Jvm.Cond.methodLink RX7 157 yX7_intAt, .instanceMethod yX7_intAt, .selects yX7_intAt.cls yX7_intAt yX7_intAt, .initialized yX7_intAt.cls, .code yX7_intAt cX7_intAt 3 (some .int)], x ∈ xBig := xBig_ix [(5, 144), (5, 146), (0, 39), (1, 8), (5, 147)] (by decide +kernel)
set_option maxRecDepth 200000 in
theorem w_X7_161 : ∀ x ∈ [Jvm.Cond.methodLink RX7 161 yX7_isGait, .instanceMethod yX7_isGait, .selects yX7_isGait.cls yX7_isGait yX7_isGait, .initialized yX7_isGait.cls, .code yX7_isGait cX7_isGait 2 (some .boolean)], x ∈ xBig := xBig_ix [(5, 152), (5, 154), (0, 40), (1, 8), (5, 155)] (by decide +kernel)
set_option maxRecDepth 200000 in
theorem w_X7_164 : ∀ x ∈ [Jvm.Cond.methodLink RX7 164 yX7_noTen, .instanceMethod yX7_noTen, .selects yX7_noTen.cls yX7_noTen yX7_noTen, .initialized yX7_noTen.cls, .code yX7_noTen cX7_noTen 2 (some .int)], x ∈ xBig := xBig_ix [(5, 156), (5, 158), (0, 41), (1, 8), (5, 159)] (by decide +kernel)
set_option maxRecDepth 200000 in
theorem w_X7_167 : ∀ x ∈ [Jvm.Cond.methodLink RX7 167 yX7_isPlace, .instanceMethod yX7_isPlace, .selects yX7_isPlace.cls yX7_isPlace yX7_isPlace, .initialized yX7_isPlace.cls, .code yX7_isPlace cX7_isPlace 2 (some .boolean)], x ∈ xBig := xBig_ix [(5, 164), (5, 166), (0, 42), (1, 8), (5, 167)] (by decide +kernel)
set_option maxRecDepth 200000 in
theorem w_X7_170 : ∀ x ∈ [Jvm.Cond.methodLink RX7 170 yX7_adds, .instanceMethod yX7_adds, .selects yX7_adds.cls yX7_adds yX7_adds, .initialized yX7_adds.cls, .code yX7_adds cX7_adds 6 (some .int)], x ∈ xBig := xBig_ix [(5, 168), (5, 170), (0, 43), (1, 8), (5, 171)] (by decide +kernel)
set_option maxRecDepth 200000 in
theorem w_X7_174 : ∀ x ∈ [Jvm.Cond.methodLink RX7 174 yX7_of, .instanceMethod yX7_of, .selects yX7_of.cls yX7_of yX7_of, .initialized yX7_of.cls, .code yX7_of cX7_of 3 (some .int)], x ∈ xBig := xBig_ix [(5, 176), (5, 178), (0, 44), (1, 8), (5, 179)] (by decide +kernel)
set_option maxRecDepth 200000 in
theorem w_X7_177 : ∀ x ∈ [Jvm.Cond.methodLink RX7 177 yX7_isTaken, .instanceMethod yX7_isTaken, .selects yX7_isTaken.cls yX7_isTaken yX7_isTaken, .initialized yX7_isTaken.cls, .code yX7_isTaken cX7_isTaken 3 (some .boolean)], x ∈ xBig := xBig_ix [(5, 184), (5, 186), (0, 45), (1, 8), (5, 187)] (by decide +kernel)
set_option maxRecDepth 200000 in
theorem w_X7_195 : ∀ x ∈ [Jvm.Cond.methodLink RX7 195 yX7_isDigit, .instanceMethod yX7_isDigit, .selects yX7_isDigit.cls yX7_isDigit yX7_isDigit, .initialized yX7_isDigit.cls, .code yX7_isDigit cX7_isDigit 1 (some .boolean)], x ∈ xBig := xBig_ix [(5, 232), (5, 234), (0, 55), (1, 8), (5, 235)] (by decide +kernel)
set_option maxRecDepth 200000 in
theorem w_X7_199 : ∀ x ∈ [Jvm.Cond.methodLink RX7 199 yX7_wrong, .instanceMethod yX7_wrong, .selects yX7_wrong.cls yX7_wrong yX7_wrong, .initialized yX7_wrong.cls, .code yX7_wrong cX7_wrong 2 (some .boolean)], x ∈ xBig := xBig_ix [(5, 216), (5, 218), (0, 51), (1, 8), (5, 219)] (by decide +kernel)
set_option maxRecDepth 200000 in
theorem w_X7_213 : ∀ x ∈ [Jvm.Cond.methodLink RX7 213 yX7_stepAt, .instanceMethod yX7_stepAt, .selects yX7_stepAt.cls yX7_stepAt yX7_stepAt, .initialized yX7_stepAt.cls, .code yX7_stepAt cX7_stepAt 3 (some .int)], x ∈ xBig := xBig_ix [(6, 4), (6, 6), (0, 58), (1, 8), (6, 7)] (by decide +kernel)
set_option maxRecDepth 200000 in
theorem w_X7_217 : ∀ x ∈ [Jvm.Cond.methodLink RX7 217 yX7_isWordAt, .instanceMethod yX7_isWordAt, .selects yX7_isWordAt.cls yX7_isWordAt yX7_isWordAt, .initialized yX7_isWordAt.cls, .code yX7_isWordAt cX7_isWordAt 4 (some .boolean)], x ∈ xBig := xBig_ix [(5, 208), (5, 210), (0, 49), (1, 8), (5, 211)] (by decide +kernel)
set_option maxRecDepth 200000 in
theorem w_X7_220 : ∀ x ∈ [Jvm.Cond.methodLink RX7 220 yX7_isFull, .instanceMethod yX7_isFull, .selects yX7_isFull.cls yX7_isFull yX7_isFull, .initialized yX7_isFull.cls, .code yX7_isFull cX7_isFull 2 (some .boolean)], x ∈ xBig := xBig_ix [(5, 212), (5, 214), (0, 50), (1, 8), (5, 215)] (by decide +kernel)
set_option maxRecDepth 200000 in
theorem w_X7_223 : ∀ x ∈ [Jvm.Cond.methodLink RX7 223 yX7_word, .instanceMethod yX7_word, .selects yX7_word.cls yX7_word yX7_word, .initialized yX7_word.cls, .code yX7_word cX7_word 6 (some .int)], x ∈ xBig := xBig_ix [(5, 220), (5, 222), (0, 52), (1, 8), (5, 223)] (by decide +kernel)
set_option maxRecDepth 200000 in
theorem w_X7_226 : ∀ x ∈ [Jvm.Cond.methodLink RX7 226 yX7_blank, .instanceMethod yX7_blank, .selects yX7_blank.cls yX7_blank yX7_blank, .initialized yX7_blank.cls, .code yX7_blank cX7_blank 1 (some .boolean)], x ∈ xBig := xBig_ix [(5, 224), (5, 226), (0, 53), (1, 8), (5, 227)] (by decide +kernel)
set_option maxRecDepth 200000 in
theorem w_X7_229 : ∀ x ∈ [Jvm.Cond.methodLink RX7 229 yX7_number, .instanceMethod yX7_number, .selects yX7_number.cls yX7_number yX7_number, .initialized yX7_number.cls, .code yX7_number cX7_number 1 (some .boolean)], x ∈ xBig := xBig_ix [(5, 228), (5, 230), (0, 54), (1, 8), (5, 231)] (by decide +kernel)
set_option maxRecDepth 200000 in
theorem w_X7_232 : ∀ x ∈ [Jvm.Cond.methodLink RX7 232 yX7_isSo, .instanceMethod yX7_isSo, .selects yX7_isSo.cls yX7_isSo yX7_isSo, .initialized yX7_isSo.cls, .code yX7_isSo cX7_isSo 3 (some .boolean)], x ∈ xBig := xBig_ix [(5, 236), (5, 238), (0, 56), (1, 8), (5, 239)] (by decide +kernel)
set_option maxRecDepth 200000 in
theorem w_X7_235 : ∀ x ∈ [Jvm.Cond.methodLink RX7 235 yX7_letters, .instanceMethod yX7_letters, .selects yX7_letters.cls yX7_letters yX7_letters, .initialized yX7_letters.cls, .code yX7_letters cX7_letters 1 (some .boolean)], x ∈ xBig := xBig_ix [(6, 0), (6, 2), (0, 57), (1, 8), (6, 3)] (by decide +kernel)
set_option maxRecDepth 200000 in
theorem w_X7_238 : ∀ x ∈ [Jvm.Cond.methodLink RX7 238 yX7_goesOn, .instanceMethod yX7_goesOn, .selects yX7_goesOn.cls yX7_goesOn yX7_goesOn, .initialized yX7_goesOn.cls, .code yX7_goesOn cX7_goesOn 3 (some .int)], x ∈ xBig := xBig_ix [(6, 12), (6, 14), (0, 59), (1, 8), (6, 15)] (by decide +kernel)
set_option maxRecDepth 200000 in
theorem w_X7_241 : ∀ x ∈ [Jvm.Cond.methodLink RX7 241 yX7_carries, .instanceMethod yX7_carries, .selects yX7_carries.cls yX7_carries yX7_carries, .initialized yX7_carries.cls, .code yX7_carries cX7_carries 7 (some .int)], x ∈ xBig := xBig_ix [(5, 200), (5, 202), (0, 47), (1, 8), (5, 203)] (by decide +kernel)
set_option maxRecDepth 200000 in
theorem w_X7_251 : ∀ x ∈ [Jvm.Cond.methodLink RX7 251 yX7_all, .instanceMethod yX7_all, .selects yX7_all.cls yX7_all yX7_all, .initialized yX7_all.cls, .code yX7_all cX7_all 4 none], x ∈ xBig := xBig_ix [(5, 196), (5, 198), (0, 46), (1, 8), (5, 199)] (by decide +kernel)
set_option maxRecDepth 200000 in
theorem w_X7_255 : ∀ x ∈ [Jvm.Cond.methodLink RX7 255 yX7_item, .instanceMethod yX7_item, .selects yX7_item.cls yX7_item yX7_item, .initialized yX7_item.cls, .code yX7_item cX7_item 5 (some .boolean)], x ∈ xBig := xBig_ix [(5, 204), (5, 206), (0, 48), (1, 8), (5, 207)] (by decide +kernel)
set_option maxRecDepth 200000 in
theorem w_X7_258 : ∀ x ∈ [Jvm.Cond.methodLink RX7 258 yX7_ahead, .instanceMethod yX7_ahead, .selects yX7_ahead.cls yX7_ahead yX7_ahead, .initialized yX7_ahead.cls, .code yX7_ahead cX7_ahead 5 (some .int)], x ∈ xBig := xBig_ix [(6, 28), (6, 30), (0, 63), (1, 8), (6, 31)] (by decide +kernel)
set_option maxRecDepth 200000 in
theorem w_X7_261 : ∀ x ∈ [Jvm.Cond.methodLink RX7 261 yX7_turns, .instanceMethod yX7_turns, .selects yX7_turns.cls yX7_turns yX7_turns, .initialized yX7_turns.cls, .code yX7_turns cX7_turns 4 (some .int)], x ∈ xBig := xBig_ix [(6, 32), (6, 34), (0, 64), (1, 8), (6, 35)] (by decide +kernel)
set_option maxRecDepth 200000 in
theorem w_X7_264 : ∀ x ∈ [Jvm.Cond.methodLink RX7 264 yX7_does, .instanceMethod yX7_does, .selects yX7_does.cls yX7_does yX7_does, .initialized yX7_does.cls, .code yX7_does cX7_does 5 none], x ∈ xBig := xBig_ix [(6, 24), (6, 26), (0, 62), (1, 8), (6, 27)] (by decide +kernel)
set_option maxRecDepth 200000 in
theorem w_X7_268 : ∀ x ∈ [Jvm.Cond.methodLink RX7 268 yX7_holdsStill, .instanceMethod yX7_holdsStill, .selects yX7_holdsStill.cls yX7_holdsStill yX7_holdsStill, .initialized yX7_holdsStill.cls, .code yX7_holdsStill cX7_holdsStill 2 none], x ∈ xBig := xBig_ix [(6, 36), (6, 38), (0, 65), (1, 8), (6, 39)] (by decide +kernel)
set_option maxRecDepth 200000 in
theorem w_X7_271 : ∀ x ∈ [Jvm.Cond.methodLink RX7 271 yX7_nextOf, .instanceMethod yX7_nextOf, .selects yX7_nextOf.cls yX7_nextOf yX7_nextOf, .initialized yX7_nextOf.cls, .code yX7_nextOf cX7_nextOf 3 (some .int)], x ∈ xBig := xBig_ix [(6, 40), (6, 42), (0, 66), (1, 8), (6, 43)] (by decide +kernel)
set_option maxRecDepth 200000 in
theorem w_X7_274 : ∀ x ∈ [Jvm.Cond.methodLink RX7 274 yX7_takes, .instanceMethod yX7_takes, .selects yX7_takes.cls yX7_takes yX7_takes, .initialized yX7_takes.cls, .code yX7_takes cX7_takes 4 (some .boolean)], x ∈ xBig := xBig_ix [(6, 44), (6, 46), (0, 67), (1, 8), (6, 47)] (by decide +kernel)
set_option maxRecDepth 200000 in
theorem w_X7_277 : ∀ x ∈ [Jvm.Cond.methodLink RX7 277 yX7_gives, .instanceMethod yX7_gives, .selects yX7_gives.cls yX7_gives yX7_gives, .initialized yX7_gives.cls, .code yX7_gives cX7_gives 2 (some .boolean)], x ∈ xBig := xBig_ix [(6, 48), (6, 50), (0, 68), (1, 8), (6, 51)] (by decide +kernel)
set_option maxRecDepth 200000 in
theorem w_X7_280 : ∀ x ∈ [Jvm.Cond.methodLink RX7 280 yX7_takesOn, .instanceMethod yX7_takesOn, .selects yX7_takesOn.cls yX7_takesOn yX7_takesOn, .initialized yX7_takesOn.cls, .code yX7_takesOn cX7_takesOn 3 none], x ∈ xBig := xBig_ix [(6, 52), (6, 54), (0, 69), (1, 8), (6, 55)] (by decide +kernel)
set_option maxRecDepth 200000 in
theorem w_X7_284 : ∀ x ∈ [Jvm.Cond.methodLink RX7 284 yX7_beats1, .instanceMethod yX7_beats1, .selects yX7_beats1.cls yX7_beats1 yX7_beats1, .initialized yX7_beats1.cls, .code yX7_beats1 cX7_beats1 6 (some .int)], x ∈ xBig := xBig_ix [(6, 20), (6, 22), (0, 61), (1, 8), (6, 23)] (by decide +kernel)
set_option maxRecDepth 200000 in
theorem w_X7_287 : ∀ x ∈ [Jvm.Cond.methodLink RX7 287 yX7_isBeats, .instanceMethod yX7_isBeats, .selects yX7_isBeats.cls yX7_isBeats yX7_isBeats, .initialized yX7_isBeats.cls, .code yX7_isBeats cX7_isBeats 2 (some .boolean)], x ∈ xBig := xBig_ix [(6, 64), (6, 66), (0, 70), (1, 8), (6, 67)] (by decide +kernel)
set_option maxRecDepth 200000 in
theorem w_X7_290 : ∀ x ∈ [Jvm.Cond.methodLink RX7 290 yX7_begins, .instanceMethod yX7_begins, .selects yX7_begins.cls yX7_begins yX7_begins, .initialized yX7_begins.cls, .code yX7_begins cX7_begins 2 none], x ∈ xBig := xBig_ix [(6, 68), (6, 70), (0, 71), (1, 8), (6, 71)] (by decide +kernel)
set_option maxRecDepth 200000 in
theorem w_X7_293 : ∀ x ∈ [Jvm.Cond.methodLink RX7 293 yX7_go, .instanceMethod yX7_go, .selects yX7_go.cls yX7_go yX7_go, .initialized yX7_go.cls, .code yX7_go cX7_go 4 (some .int)], x ∈ xBig := xBig_ix [(6, 16), (6, 18), (0, 60), (1, 8), (6, 19)] (by decide +kernel)
set_option maxRecDepth 200000 in
theorem w_X7_296 : ∀ x ∈ [Jvm.Cond.methodLink RX7 296 yX7_backAgain, .instanceMethod yX7_backAgain, .selects yX7_backAgain.cls yX7_backAgain yX7_backAgain, .initialized yX7_backAgain.cls, .code yX7_backAgain cX7_backAgain 2 none], x ∈ xBig := xBig_ix [(6, 72), (6, 74), (0, 72), (1, 8), (6, 75)] (by decide +kernel)
set_option maxRecDepth 200000 in
theorem w_X7_299 : ∀ x ∈ [Jvm.Cond.methodLink RX7 299 yX7_having, .instanceMethod yX7_having, .selects yX7_having.cls yX7_having yX7_having, .initialized yX7_having.cls, .code yX7_having cX7_having 4 (some .int)], x ∈ xBig := xBig_ix [(6, 80), (6, 82), (0, 73), (1, 8), (6, 83)] (by decide +kernel)
set_option maxRecDepth 200000 in
theorem w_X7_302 : ∀ x ∈ [Jvm.Cond.methodLink RX7 302 yX7_firstOf, .instanceMethod yX7_firstOf, .selects yX7_firstOf.cls yX7_firstOf yX7_firstOf, .initialized yX7_firstOf.cls, .code yX7_firstOf cX7_firstOf 5 (some .int)], x ∈ xBig := xBig_ix [(6, 92), (6, 94), (0, 74), (1, 8), (6, 95)] (by decide +kernel)
set_option maxRecDepth 200000 in
theorem w_X7_313 : ∀ x ∈ [Jvm.Cond.methodLink RX7 313 yX7_mark, .instanceMethod yX7_mark, .selects yX7_mark.cls yX7_mark yX7_mark, .initialized yX7_mark.cls, .code yX7_mark cX7_mark 5 (some .long)], x ∈ xBig := xBig_ix [(6, 112), (6, 114), (0, 75), (1, 8), (6, 115)] (by decide +kernel)
set_option maxRecDepth 200000 in
theorem w_X7_317 : ∀ x ∈ [Jvm.Cond.methodLink RX7 317 yX7_isAlike, .instanceMethod yX7_isAlike, .selects yX7_isAlike.cls yX7_isAlike yX7_isAlike, .initialized yX7_isAlike.cls, .code yX7_isAlike cX7_isAlike 2 (some .boolean)], x ∈ xBig := xBig_ix [(6, 128), (6, 130), (0, 76), (1, 8), (6, 131)] (by decide +kernel)
set_option maxRecDepth 200000 in
theorem w_X7_320 : ∀ x ∈ [Jvm.Cond.methodLink RX7 320 yX7_sights, .instanceMethod yX7_sights, .selects yX7_sights.cls yX7_sights yX7_sights, .initialized yX7_sights.cls, .code yX7_sights cX7_sights 6 (some .int)], x ∈ xBig := xBig_ix [(6, 140), (6, 142), (0, 77), (1, 8), (6, 143)] (by decide +kernel)
set_option maxRecDepth 200000 in
theorem w_X7_323 : ∀ x ∈ [Jvm.Cond.methodLink RX7 323 yX7_fits, .instanceMethod yX7_fits, .selects yX7_fits.cls yX7_fits yX7_fits, .initialized yX7_fits.cls, .code yX7_fits cX7_fits 8 (some .int)], x ∈ xBig := xBig_ix [(6, 144), (6, 146), (0, 78), (1, 8), (6, 147)] (by decide +kernel)
set_option maxRecDepth 200000 in
theorem w_X7_327 : ∀ x ∈ [Jvm.Cond.methodLink RX7 327 yX7_draw, .instanceMethod yX7_draw, .selects yX7_draw.cls yX7_draw yX7_draw, .initialized yX7_draw.cls, .code yX7_draw cX7_draw 2 (some .int)], x ∈ xBig := xBig_ix [(6, 164), (6, 166), (0, 79), (1, 8), (6, 167)] (by decide +kernel)
set_option maxRecDepth 200000 in
theorem w_X7_333 : ∀ x ∈ [Jvm.Cond.methodLink RX7 333 yX7_body, .instanceMethod yX7_body, .selects yX7_body.cls yX7_body yX7_body, .initialized yX7_body.cls, .code yX7_body cX7_body 2 none], x ∈ xBig := xBig_ix [(6, 189), (6, 191), (0, 81), (1, 8), (6, 192)] (by decide +kernel)
set_option maxRecDepth 200000 in
theorem w_X7_336 : ∀ x ∈ [Jvm.Cond.methodLink RX7 336 yX7_stepping, .instanceMethod yX7_stepping, .selects yX7_stepping.cls yX7_stepping yX7_stepping, .initialized yX7_stepping.cls, .code yX7_stepping cX7_stepping 5 (some .int)], x ∈ xBig := xBig_ix [(6, 185), (6, 187), (0, 80), (1, 8), (6, 188)] (by decide +kernel)
set_option maxRecDepth 200000 in
theorem w_X7_339 : ∀ x ∈ [Jvm.Cond.methodLink RX7 339 yX7_meeting, .instanceMethod yX7_meeting, .selects yX7_meeting.cls yX7_meeting yX7_meeting, .initialized yX7_meeting.cls, .code yX7_meeting cX7_meeting 6 (some .int)], x ∈ xBig := xBig_ix [(6, 193), (6, 195), (0, 82), (1, 8), (6, 196)] (by decide +kernel)
set_option maxRecDepth 200000 in
theorem w_X7_342 : ∀ x ∈ [Jvm.Cond.methodLink RX7 342 yX7_taking, .instanceMethod yX7_taking, .selects yX7_taking.cls yX7_taking yX7_taking, .initialized yX7_taking.cls, .code yX7_taking cX7_taking 5 (some .int)], x ∈ xBig := xBig_ix [(6, 197), (6, 199), (0, 83), (1, 8), (6, 200)] (by decide +kernel)
