/-! the law's call sites: the tables' words -/
set_option maxRecDepth 200000 in
theorem k_L_18 : Jvm.Cond.constantLong RL 18 4294967295 ∈ xBig := xBig_of (ws := [Jvm.Cond.constantLong RL 18 4294967295]) (by decide +kernel) _ List.mem_cons_self
set_option maxRecDepth 200000 in
theorem w_L_13 : ∀ x ∈ [Jvm.Cond.methodLink RL 13 yX6_row, .instanceMethod yX6_row, .selects yX6_row.cls yX6_row yX6_row, .initialized yX6_row.cls, .code yX6_row cX6_row 5 (some .int)], x ∈ xBig := xBig_ix [(2, 19), (2, 20), (2, 21), (1, 1), (2, 22)] (by decide +kernel)
set_option maxRecDepth 200000 in
theorem w_L_17 : ∀ x ∈ [Jvm.Cond.methodLink RL 17 yX7_row, .instanceMethod yX7_row, .selects yX7_row.cls yX7_row yX7_row, .initialized yX7_row.cls, .code yX7_row cX7_row 5 (some .int)], x ∈ xBig := xBig_ix [(5, 84), (5, 85), (5, 86), (1, 8), (5, 87)] (by decide +kernel)
set_option maxRecDepth 200000 in
theorem w_L_20 : ∀ x ∈ [Jvm.Cond.methodLink RL 20 yX6_set, .instanceMethod yX6_set, .selects yX6_set.cls yX6_set yX6_set, .initialized yX6_set.cls, .code yX6_set cX6_set 7 (some .int)], x ∈ xBig := xBig_ix [(2, 35), (2, 36), (2, 37), (1, 1), (2, 38)] (by decide +kernel)
set_option maxRecDepth 200000 in
theorem w_L_24 : ∀ x ∈ [Jvm.Cond.methodLink RL 24 yX7_set, .instanceMethod yX7_set, .selects yX7_set.cls yX7_set yX7_set, .initialized yX7_set.cls, .code yX7_set cX7_set 5 (some .int)], x ∈ xBig := xBig_ix [(5, 96), (5, 97), (5, 98), (1, 8), (5, 99)] (by decide +kernel)
set_option maxRecDepth 200000 in
theorem w_L_25 : ∀ x ∈ [Jvm.Cond.methodLink RL 25 yX6_copy, .instanceMethod yX6_copy, .selects yX6_copy.cls yX6_copy yX6_copy, .initialized yX6_copy.cls, .code yX6_copy cX6_copy 9 (some .int)], x ∈ xBig := xBig_ix [(2, 63), (2, 64), (2, 65), (1, 1), (2, 66)] (by decide +kernel)
set_option maxRecDepth 200000 in
theorem w_L_29 : ∀ x ∈ [Jvm.Cond.methodLink RL 29 yX7_copy, .instanceMethod yX7_copy, .selects yX7_copy.cls yX7_copy yX7_copy, .initialized yX7_copy.cls, .code yX7_copy cX7_copy 7 (some .int)], x ∈ xBig := xBig_ix [(5, 100), (5, 101), (5, 102), (1, 8), (5, 103)] (by decide +kernel)
set_option maxRecDepth 200000 in
theorem w_L_30 : ∀ x ∈ [Jvm.Cond.methodLink RL 30 yX6_element, .instanceMethod yX6_element, .selects yX6_element.cls yX6_element yX6_element, .initialized yX6_element.cls, .code yX6_element cX6_element 4 (some .long)], x ∈ xBig := xBig_ix [(2, 78), (2, 79), (2, 80), (1, 1), (2, 81)] (by decide +kernel)
set_option maxRecDepth 200000 in
theorem w_L_34 : ∀ x ∈ [Jvm.Cond.methodLink RL 34 yX7_element, .instanceMethod yX7_element, .selects yX7_element.cls yX7_element yX7_element, .initialized yX7_element.cls, .code yX7_element cX7_element 3 (some .long)], x ∈ xBig := xBig_ix [(5, 104), (5, 105), (5, 106), (1, 8), (5, 107)] (by decide +kernel)
set_option maxRecDepth 200000 in
theorem w_L_35 : ∀ x ∈ [Jvm.Cond.methodLink RL 35 yX6_show, .instanceMethod yX6_show, .selects yX6_show.cls yX6_show yX6_show, .initialized yX6_show.cls, .code yX6_show cX6_show 4 (some .int)], x ∈ xBig := xBig_ix [(2, 86), (2, 87), (2, 88), (1, 1), (2, 89)] (by decide +kernel)
set_option maxRecDepth 200000 in
theorem w_L_39 : ∀ x ∈ [Jvm.Cond.methodLink RL 39 yX7_show, .instanceMethod yX7_show, .selects yX7_show.cls yX7_show yX7_show, .initialized yX7_show.cls, .code yX7_show cX7_show 3 (some .int)], x ∈ xBig := xBig_ix [(5, 108), (5, 109), (5, 110), (1, 8), (5, 111)] (by decide +kernel)
set_option maxRecDepth 200000 in
theorem w_L_40 : ∀ x ∈ [Jvm.Cond.methodLink RL 40 yX6_holds, .instanceMethod yX6_holds, .selects yX6_holds.cls yX6_holds yX6_holds, .initialized yX6_holds.cls, .code yX6_holds cX6_holds 3 (some .int)], x ∈ xBig := xBig_ix [(2, 98), (2, 99), (2, 100), (1, 1), (2, 101)] (by decide +kernel)
set_option maxRecDepth 200000 in
theorem w_L_44 : ∀ x ∈ [Jvm.Cond.methodLink RL 44 yX7_holds, .instanceMethod yX7_holds, .selects yX7_holds.cls yX7_holds yX7_holds, .initialized yX7_holds.cls, .code yX7_holds cX7_holds 2 (some .int)], x ∈ xBig := xBig_ix [(5, 116), (5, 117), (5, 118), (1, 8), (5, 119)] (by decide +kernel)
set_option maxRecDepth 200000 in
theorem w_L_45 : ∀ x ∈ [Jvm.Cond.methodLink RL 45 yX6_says, .instanceMethod yX6_says, .selects yX6_says.cls yX6_says yX6_says, .initialized yX6_says.cls, .code yX6_says cX6_says 4 (some .int)], x ∈ xBig := xBig_ix [(2, 102), (2, 103), (2, 104), (1, 1), (2, 105)] (by decide +kernel)
set_option maxRecDepth 200000 in
theorem w_L_48 : ∀ x ∈ [Jvm.Cond.methodLink RL 48 yX7_says, .instanceMethod yX7_says, .selects yX7_says.cls yX7_says yX7_says, .initialized yX7_says.cls, .code yX7_says cX7_says 7 (some .int)], x ∈ xBig := xBig_ix [(5, 120), (5, 121), (5, 122), (1, 8), (5, 123)] (by decide +kernel)
set_option maxRecDepth 200000 in
theorem w_L_49 : ∀ x ∈ [Jvm.Cond.methodLink RL 49 yX6_gait, .instanceMethod yX6_gait, .selects yX6_gait.cls yX6_gait yX6_gait, .initialized yX6_gait.cls, .code yX6_gait cX6_gait 9 (some .int)], x ∈ xBig := xBig_ix [(2, 147), (2, 148), (2, 149), (1, 1), (2, 150)] (by decide +kernel)
set_option maxRecDepth 200000 in
theorem w_L_52 : ∀ x ∈ [Jvm.Cond.methodLink RL 52 yX7_gait, .instanceMethod yX7_gait, .selects yX7_gait.cls yX7_gait yX7_gait, .initialized yX7_gait.cls, .code yX7_gait cX7_gait 6 (some .int)], x ∈ xBig := xBig_ix [(5, 132), (5, 133), (5, 134), (1, 8), (5, 135)] (by decide +kernel)
set_option maxRecDepth 200000 in
theorem w_L_53 : ∀ x ∈ [Jvm.Cond.methodLink RL 53 yX6_gaitOf, .instanceMethod yX6_gaitOf, .selects yX6_gaitOf.cls yX6_gaitOf yX6_gaitOf, .initialized yX6_gaitOf.cls, .code yX6_gaitOf cX6_gaitOf 4 (some .int)], x ∈ xBig := xBig_ix [(2, 171), (2, 172), (2, 173), (1, 1), (2, 174)] (by decide +kernel)
set_option maxRecDepth 200000 in
theorem w_L_56 : ∀ x ∈ [Jvm.Cond.methodLink RL 56 yX7_gaitOf, .instanceMethod yX7_gaitOf, .selects yX7_gaitOf.cls yX7_gaitOf yX7_gaitOf, .initialized yX7_gaitOf.cls, .code yX7_gaitOf cX7_gaitOf 3 (some .int)], x ∈ xBig := xBig_ix [(5, 148), (5, 149), (5, 150), (1, 8), (5, 151)] (by decide +kernel)
set_option maxRecDepth 200000 in
theorem w_L_57 : ∀ x ∈ [Jvm.Cond.methodLink RL 57 yX6_walker, .instanceMethod yX6_walker, .selects yX6_walker.cls yX6_walker yX6_walker, .initialized yX6_walker.cls, .code yX6_walker cX6_walker 6 (some .int)], x ∈ xBig := xBig_ix [(2, 184), (2, 185), (2, 186), (1, 1), (2, 187)] (by decide +kernel)
set_option maxRecDepth 200000 in
theorem w_L_60 : ∀ x ∈ [Jvm.Cond.methodLink RL 60 yX7_walker, .instanceMethod yX7_walker, .selects yX7_walker.cls yX7_walker yX7_walker, .initialized yX7_walker.cls, .code yX7_walker cX7_walker 6 (some .int)], x ∈ xBig := xBig_ix [(5, 160), (5, 161), (5, 162), (1, 8), (5, 163)] (by decide +kernel)
set_option maxRecDepth 200000 in
theorem w_L_61 : ∀ x ∈ [Jvm.Cond.methodLink RL 61 yX6_walkerOf, .instanceMethod yX6_walkerOf, .selects yX6_walkerOf.cls yX6_walkerOf yX6_walkerOf, .initialized yX6_walkerOf.cls, .code yX6_walkerOf cX6_walkerOf 3 (some .int)], x ∈ xBig := xBig_ix [(2, 200), (2, 201), (2, 202), (1, 1), (2, 203)] (by decide +kernel)
set_option maxRecDepth 200000 in
theorem w_L_64 : ∀ x ∈ [Jvm.Cond.methodLink RL 64 yX7_walkerOf, .instanceMethod yX7_walkerOf, .selects yX7_walkerOf.cls yX7_walkerOf yX7_walkerOf, .initialized yX7_walkerOf.cls, .code yX7_walkerOf cX7_walkerOf 3 (some .int)], x ∈ xBig := xBig_ix [(5, 172), (5, 173), (5, 174), (1, 8), (5, 175)] (by decide +kernel)
set_option maxRecDepth 200000 in
theorem w_L_65 : ∀ x ∈ [Jvm.Cond.methodLink RL 65 yX6_wall, .instanceMethod yX6_wall, .selects yX6_wall.cls yX6_wall yX6_wall, .initialized yX6_wall.cls, .code yX6_wall cX6_wall 3 (some .int)], x ∈ xBig := xBig_ix [(2, 208), (2, 209), (2, 210), (1, 1), (2, 211)] (by decide +kernel)
set_option maxRecDepth 200000 in
theorem w_L_69 : ∀ x ∈ [Jvm.Cond.methodLink RL 69 yX7_wall, .instanceMethod yX7_wall, .selects yX7_wall.cls yX7_wall yX7_wall, .initialized yX7_wall.cls, .code yX7_wall cX7_wall 4 (some .int)], x ∈ xBig := xBig_ix [(5, 180), (5, 181), (5, 182), (1, 8), (5, 183)] (by decide +kernel)
set_option maxRecDepth 200000 in
theorem w_L_70 : ∀ x ∈ [Jvm.Cond.methodLink RL 70 yX6_isWall, .instanceMethod yX6_isWall, .selects yX6_isWall.cls yX6_isWall yX6_isWall, .initialized yX6_isWall.cls, .code yX6_isWall cX6_isWall 2 (some .int)], x ∈ xBig := xBig_ix [(2, 221), (2, 222), (2, 223), (1, 1), (2, 224)] (by decide +kernel)
set_option maxRecDepth 200000 in
theorem w_L_73 : ∀ x ∈ [Jvm.Cond.methodLink RL 73 yX7_isWall, .instanceMethod yX7_isWall, .selects yX7_isWall.cls yX7_isWall yX7_isWall, .initialized yX7_isWall.cls, .code yX7_isWall cX7_isWall 2 (some .int)], x ∈ xBig := xBig_ix [(5, 188), (5, 189), (5, 190), (1, 8), (5, 191)] (by decide +kernel)
set_option maxRecDepth 200000 in
theorem w_L_74 : ∀ x ∈ [Jvm.Cond.methodLink RL 74 yX6_streets, .instanceMethod yX6_streets, .selects yX6_streets.cls yX6_streets yX6_streets, .initialized yX6_streets.cls, .code yX6_streets cX6_streets 5 (some .int)], x ∈ xBig := xBig_ix [(2, 225), (2, 226), (2, 227), (1, 1), (2, 228)] (by decide +kernel)
set_option maxRecDepth 200000 in
theorem w_L_77 : ∀ x ∈ [Jvm.Cond.methodLink RL 77 yX7_streets, .instanceMethod yX7_streets, .selects yX7_streets.cls yX7_streets yX7_streets, .initialized yX7_streets.cls, .code yX7_streets cX7_streets 5 (some .int)], x ∈ xBig := xBig_ix [(5, 192), (5, 193), (5, 194), (1, 8), (5, 195)] (by decide +kernel)
set_option maxRecDepth 200000 in
theorem w_L_78 : ∀ x ∈ [Jvm.Cond.methodLink RL 78 yX6_fault, .instanceMethod yX6_fault, .selects yX6_fault.cls yX6_fault yX6_fault, .initialized yX6_fault.cls, .code yX6_fault cX6_fault 1 (some .int)], x ∈ xBig := xBig_ix [(3, 196), (3, 197), (3, 198), (1, 1), (3, 199)] (by decide +kernel)
set_option maxRecDepth 200000 in
theorem w_L_82 : ∀ x ∈ [Jvm.Cond.methodLink RL 82 yX7_fault, .instanceMethod yX7_fault, .selects yX7_fault.cls yX7_fault yX7_fault, .initialized yX7_fault.cls, .code yX7_fault cX7_fault 1 (some .int)], x ∈ xBig := xBig_ix [(6, 56), (6, 57), (6, 58), (1, 8), (6, 59)] (by decide +kernel)
set_option maxRecDepth 200000 in
theorem w_L_83 : ∀ x ∈ [Jvm.Cond.methodLink RL 83 yX6_at, .instanceMethod yX6_at, .selects yX6_at.cls yX6_at yX6_at, .initialized yX6_at.cls, .code yX6_at cX6_at 5 (some .int)], x ∈ xBig := xBig_ix [(3, 200), (3, 201), (3, 202), (1, 1), (3, 203)] (by decide +kernel)
set_option maxRecDepth 200000 in
theorem w_L_86 : ∀ x ∈ [Jvm.Cond.methodLink RL 86 yX7_at, .instanceMethod yX7_at, .selects yX7_at.cls yX7_at yX7_at, .initialized yX7_at.cls, .code yX7_at cX7_at 5 (some .int)], x ∈ xBig := xBig_ix [(6, 60), (6, 61), (6, 62), (1, 8), (6, 63)] (by decide +kernel)
set_option maxRecDepth 200000 in
theorem w_L_87 : ∀ x ∈ [Jvm.Cond.methodLink RL 87 yX6_have, .instanceMethod yX6_have, .selects yX6_have.cls yX6_have yX6_have, .initialized yX6_have.cls, .code yX6_have cX6_have 3 (some .int)], x ∈ xBig := xBig_ix [(3, 213), (3, 214), (3, 215), (1, 1), (3, 216)] (by decide +kernel)
set_option maxRecDepth 200000 in
theorem w_L_90 : ∀ x ∈ [Jvm.Cond.methodLink RL 90 yX7_have, .instanceMethod yX7_have, .selects yX7_have.cls yX7_have yX7_have, .initialized yX7_have.cls, .code yX7_have cX7_have 4 (some .int)], x ∈ xBig := xBig_ix [(6, 76), (6, 77), (6, 78), (1, 8), (6, 79)] (by decide +kernel)
set_option maxRecDepth 200000 in
theorem w_L_91 : ∀ x ∈ [Jvm.Cond.methodLink RL 91 yX6_survives, .instanceMethod yX6_survives, .selects yX6_survives.cls yX6_survives yX6_survives, .initialized yX6_survives.cls, .code yX6_survives cX6_survives 4 (some .int)], x ∈ xBig := xBig_ix [(3, 218), (3, 219), (3, 220), (1, 1), (3, 221)] (by decide +kernel)
set_option maxRecDepth 200000 in
theorem w_L_94 : ∀ x ∈ [Jvm.Cond.methodLink RL 94 yX7_survives, .instanceMethod yX7_survives, .selects yX7_survives.cls yX7_survives yX7_survives, .initialized yX7_survives.cls, .code yX7_survives cX7_survives 4 (some .int)], x ∈ xBig := xBig_ix [(6, 84), (6, 85), (6, 86), (1, 8), (6, 87)] (by decide +kernel)
set_option maxRecDepth 200000 in
theorem w_L_95 : ∀ x ∈ [Jvm.Cond.methodLink RL 95 yX6_lost, .instanceMethod yX6_lost, .selects yX6_lost.cls yX6_lost yX6_lost, .initialized yX6_lost.cls, .code yX6_lost cX6_lost 3 (some .int)], x ∈ xBig := xBig_ix [(3, 222), (3, 223), (3, 224), (1, 1), (3, 225)] (by decide +kernel)
set_option maxRecDepth 200000 in
theorem w_L_98 : ∀ x ∈ [Jvm.Cond.methodLink RL 98 yX7_lost, .instanceMethod yX7_lost, .selects yX7_lost.cls yX7_lost yX7_lost, .initialized yX7_lost.cls, .code yX7_lost cX7_lost 2 (some .int)], x ∈ xBig := xBig_ix [(6, 88), (6, 89), (6, 90), (1, 8), (6, 91)] (by decide +kernel)
set_option maxRecDepth 200000 in
theorem w_L_99 : ∀ x ∈ [Jvm.Cond.methodLink RL 99 yX6_comes, .instanceMethod yX6_comes, .selects yX6_comes.cls yX6_comes yX6_comes, .initialized yX6_comes.cls, .code yX6_comes cX6_comes 4 (some .int)], x ∈ xBig := xBig_ix [(3, 227), (3, 228), (3, 229), (1, 1), (3, 230)] (by decide +kernel)
set_option maxRecDepth 200000 in
theorem w_L_102 : ∀ x ∈ [Jvm.Cond.methodLink RL 102 yX7_comes, .instanceMethod yX7_comes, .selects yX7_comes.cls yX7_comes yX7_comes, .initialized yX7_comes.cls, .code yX7_comes cX7_comes 3 (some .int)], x ∈ xBig := xBig_ix [(6, 96), (6, 97), (6, 98), (1, 8), (6, 99)] (by decide +kernel)
set_option maxRecDepth 200000 in
theorem w_L_103 : ∀ x ∈ [Jvm.Cond.methodLink RL 103 yX6_meet, .instanceMethod yX6_meet, .selects yX6_meet.cls yX6_meet yX6_meet, .initialized yX6_meet.cls, .code yX6_meet cX6_meet 4 (some .int)], x ∈ xBig := xBig_ix [(3, 231), (3, 232), (3, 233), (1, 1), (3, 234)] (by decide +kernel)
set_option maxRecDepth 200000 in
theorem w_L_106 : ∀ x ∈ [Jvm.Cond.methodLink RL 106 yX7_meet, .instanceMethod yX7_meet, .selects yX7_meet.cls yX7_meet yX7_meet, .initialized yX7_meet.cls, .code yX7_meet cX7_meet 5 (some .int)], x ∈ xBig := xBig_ix [(6, 100), (6, 101), (6, 102), (1, 8), (6, 103)] (by decide +kernel)
set_option maxRecDepth 200000 in
theorem w_L_107 : ∀ x ∈ [Jvm.Cond.methodLink RL 107 yX6_meetings, .instanceMethod yX6_meetings, .selects yX6_meetings.cls yX6_meetings yX6_meetings, .initialized yX6_meetings.cls, .code yX6_meetings cX6_meetings 2 (some .int)], x ∈ xBig := xBig_ix [(3, 235), (3, 236), (3, 237), (1, 1), (3, 238)] (by decide +kernel)
set_option maxRecDepth 200000 in
theorem w_L_110 : ∀ x ∈ [Jvm.Cond.methodLink RL 110 yX7_meetings, .instanceMethod yX7_meetings, .selects yX7_meetings.cls yX7_meetings yX7_meetings, .initialized yX7_meetings.cls, .code yX7_meetings cX7_meetings 3 (some .int)], x ∈ xBig := xBig_ix [(6, 104), (6, 105), (6, 106), (1, 8), (6, 107)] (by decide +kernel)
set_option maxRecDepth 200000 in
theorem w_L_111 : ∀ x ∈ [Jvm.Cond.methodLink RL 111 yX6_ring, .instanceMethod yX6_ring, .selects yX6_ring.cls yX6_ring yX6_ring, .initialized yX6_ring.cls, .code yX6_ring cX6_ring 4 (some .int)], x ∈ xBig := xBig_ix [(3, 239), (4, 0), (4, 1), (1, 1), (4, 2)] (by decide +kernel)
set_option maxRecDepth 200000 in
theorem w_L_114 : ∀ x ∈ [Jvm.Cond.methodLink RL 114 yX7_ring, .instanceMethod yX7_ring, .selects yX7_ring.cls yX7_ring yX7_ring, .initialized yX7_ring.cls, .code yX7_ring cX7_ring 4 (some .int)], x ∈ xBig := xBig_ix [(6, 108), (6, 109), (6, 110), (1, 8), (6, 111)] (by decide +kernel)
set_option maxRecDepth 200000 in
theorem w_L_115 : ∀ x ∈ [Jvm.Cond.methodLink RL 115 yX6_alone, .instanceMethod yX6_alone, .selects yX6_alone.cls yX6_alone yX6_alone, .initialized yX6_alone.cls, .code yX6_alone cX6_alone 5 (some .int)], x ∈ xBig := xBig_ix [(4, 15), (4, 16), (4, 17), (1, 1), (4, 18)] (by decide +kernel)
set_option maxRecDepth 200000 in
theorem w_L_118 : ∀ x ∈ [Jvm.Cond.methodLink RL 118 yX7_alone, .instanceMethod yX7_alone, .selects yX7_alone.cls yX7_alone yX7_alone, .initialized yX7_alone.cls, .code yX7_alone cX7_alone 5 (some .int)], x ∈ xBig := xBig_ix [(6, 120), (6, 121), (6, 122), (1, 8), (6, 123)] (by decide +kernel)
set_option maxRecDepth 200000 in
theorem w_L_119 : ∀ x ∈ [Jvm.Cond.methodLink RL 119 yX6_alike, .instanceMethod yX6_alike, .selects yX6_alike.cls yX6_alike yX6_alike, .initialized yX6_alike.cls, .code yX6_alike cX6_alike 2 (some .int)], x ∈ xBig := xBig_ix [(4, 23), (4, 24), (4, 25), (1, 1), (4, 26)] (by decide +kernel)
set_option maxRecDepth 200000 in
theorem w_L_122 : ∀ x ∈ [Jvm.Cond.methodLink RL 122 yX7_alike, .instanceMethod yX7_alike, .selects yX7_alike.cls yX7_alike yX7_alike, .initialized yX7_alike.cls, .code yX7_alike cX7_alike 3 (some .int)], x ∈ xBig := xBig_ix [(6, 124), (6, 125), (6, 126), (1, 8), (6, 127)] (by decide +kernel)
set_option maxRecDepth 200000 in
theorem w_L_123 : ∀ x ∈ [Jvm.Cond.methodLink RL 123 yX6_hire, .instanceMethod yX6_hire, .selects yX6_hire.cls yX6_hire yX6_hire, .initialized yX6_hire.cls, .code yX6_hire cX6_hire 7 (some .int)], x ∈ xBig := xBig_ix [(4, 31), (4, 32), (4, 33), (1, 1), (4, 34)] (by decide +kernel)
set_option maxRecDepth 200000 in
theorem w_L_126 : ∀ x ∈ [Jvm.Cond.methodLink RL 126 yX7_hire, .instanceMethod yX7_hire, .selects yX7_hire.cls yX7_hire yX7_hire, .initialized yX7_hire.cls, .code yX7_hire cX7_hire 9 (some .int)], x ∈ xBig := xBig_ix [(6, 132), (6, 133), (6, 134), (1, 8), (6, 135)] (by decide +kernel)
set_option maxRecDepth 200000 in
theorem w_L_127 : ∀ x ∈ [Jvm.Cond.methodLink RL 127 yX6_fit, .instanceMethod yX6_fit, .selects yX6_fit.cls yX6_fit yX6_fit, .initialized yX6_fit.cls, .code yX6_fit cX6_fit 6 (some .int)], x ∈ xBig := xBig_ix [(4, 49), (4, 50), (4, 51), (1, 1), (4, 52)] (by decide +kernel)
set_option maxRecDepth 200000 in
theorem w_L_130 : ∀ x ∈ [Jvm.Cond.methodLink RL 130 yX7_fit, .instanceMethod yX7_fit, .selects yX7_fit.cls yX7_fit yX7_fit, .initialized yX7_fit.cls, .code yX7_fit cX7_fit 4 (some .int)], x ∈ xBig := xBig_ix [(6, 136), (6, 137), (6, 138), (1, 8), (6, 139)] (by decide +kernel)
set_option maxRecDepth 200000 in
theorem w_L_131 : ∀ x ∈ [Jvm.Cond.methodLink RL 131 yX6_began, .instanceMethod yX6_began, .selects yX6_began.cls yX6_began yX6_began, .initialized yX6_began.cls, .code yX6_began cX6_began 9 (some .int)], x ∈ xBig := xBig_ix [(4, 66), (4, 67), (4, 68), (1, 1), (4, 69)] (by decide +kernel)
set_option maxRecDepth 200000 in
theorem w_L_134 : ∀ x ∈ [Jvm.Cond.methodLink RL 134 yX7_began, .instanceMethod yX7_began, .selects yX7_began.cls yX7_began yX7_began, .initialized yX7_began.cls, .code yX7_began cX7_began 9 (some .int)], x ∈ xBig := xBig_ix [(6, 148), (6, 149), (6, 150), (1, 8), (6, 151)] (by decide +kernel)
set_option maxRecDepth 200000 in
theorem w_L_135 : ∀ x ∈ [Jvm.Cond.methodLink RL 135 yX6_thief, .instanceMethod yX6_thief, .selects yX6_thief.cls yX6_thief yX6_thief, .initialized yX6_thief.cls, .code yX6_thief cX6_thief 4 (some .int)], x ∈ xBig := xBig_ix [(4, 74), (4, 75), (4, 76), (1, 1), (4, 77)] (by decide +kernel)
set_option maxRecDepth 200000 in
theorem w_L_138 : ∀ x ∈ [Jvm.Cond.methodLink RL 138 yX7_thief, .instanceMethod yX7_thief, .selects yX7_thief.cls yX7_thief yX7_thief, .initialized yX7_thief.cls, .code yX7_thief cX7_thief 5 (some .int)], x ∈ xBig := xBig_ix [(6, 152), (6, 153), (6, 154), (1, 8), (6, 155)] (by decide +kernel)
set_option maxRecDepth 200000 in
theorem w_L_139 : ∀ x ∈ [Jvm.Cond.methodLink RL 139 yX6_beat, .instanceMethod yX6_beat, .selects yX6_beat.cls yX6_beat yX6_beat, .initialized yX6_beat.cls, .code yX6_beat cX6_beat 2 (some .int)], x ∈ xBig := xBig_ix [(4, 82), (4, 83), (4, 84), (1, 1), (4, 85)] (by decide +kernel)
set_option maxRecDepth 200000 in
theorem w_L_142 : ∀ x ∈ [Jvm.Cond.methodLink RL 142 yX7_beat, .instanceMethod yX7_beat, .selects yX7_beat.cls yX7_beat yX7_beat, .initialized yX7_beat.cls, .code yX7_beat cX7_beat 2 (some .int)], x ∈ xBig := xBig_ix [(6, 156), (6, 157), (6, 158), (1, 8), (6, 159)] (by decide +kernel)
set_option maxRecDepth 200000 in
theorem w_L_143 : ∀ x ∈ [Jvm.Cond.methodLink RL 143 yX6_strangers, .instanceMethod yX6_strangers, .selects yX6_strangers.cls yX6_strangers yX6_strangers, .initialized yX6_strangers.cls, .code yX6_strangers cX6_strangers 4 (some .int)], x ∈ xBig := xBig_ix [(4, 86), (4, 87), (4, 88), (1, 1), (4, 89)] (by decide +kernel)
set_option maxRecDepth 200000 in
theorem w_L_146 : ∀ x ∈ [Jvm.Cond.methodLink RL 146 yX7_strangers, .instanceMethod yX7_strangers, .selects yX7_strangers.cls yX7_strangers yX7_strangers, .initialized yX7_strangers.cls, .code yX7_strangers cX7_strangers 7 (some .int)], x ∈ xBig := xBig_ix [(6, 160), (6, 161), (6, 162), (1, 8), (6, 163)] (by decide +kernel)
set_option maxRecDepth 200000 in
theorem w_L_147 : ∀ x ∈ [Jvm.Cond.methodLink RL 147 yX6_goes, .instanceMethod yX6_goes, .selects yX6_goes.cls yX6_goes yX6_goes, .initialized yX6_goes.cls, .code yX6_goes cX6_goes 1 (some .int)], x ∈ xBig := xBig_ix [(4, 101), (4, 102), (4, 103), (1, 1), (4, 104)] (by decide +kernel)
set_option maxRecDepth 200000 in
theorem w_L_150 : ∀ x ∈ [Jvm.Cond.methodLink RL 150 yX7_goes, .instanceMethod yX7_goes, .selects yX7_goes.cls yX7_goes yX7_goes, .initialized yX7_goes.cls, .code yX7_goes cX7_goes 2 (some .int)], x ∈ xBig := xBig_ix [(6, 169), (6, 170), (6, 171), (1, 8), (6, 172)] (by decide +kernel)
set_option maxRecDepth 200000 in
theorem w_L_151 : ∀ x ∈ [Jvm.Cond.methodLink RL 151 yX6_teach, .instanceMethod yX6_teach, .selects yX6_teach.cls yX6_teach yX6_teach, .initialized yX6_teach.cls, .code yX6_teach cX6_teach 5 (some .int)], x ∈ xBig := xBig_ix [(4, 109), (4, 110), (4, 111), (1, 1), (4, 112)] (by decide +kernel)
set_option maxRecDepth 200000 in
theorem w_L_154 : ∀ x ∈ [Jvm.Cond.methodLink RL 154 yX7_teach, .instanceMethod yX7_teach, .selects yX7_teach.cls yX7_teach yX7_teach, .initialized yX7_teach.cls, .code yX7_teach cX7_teach 4 (some .int)], x ∈ xBig := xBig_ix [(6, 173), (6, 174), (6, 175), (1, 8), (6, 176)] (by decide +kernel)
set_option maxRecDepth 200000 in
theorem w_L_155 : ∀ x ∈ [Jvm.Cond.methodLink RL 155 yX6_seed, .instanceMethod yX6_seed, .selects yX6_seed.cls yX6_seed yX6_seed, .initialized yX6_seed.cls, .code yX6_seed cX6_seed 3 (some .int)], x ∈ xBig := xBig_ix [(4, 113), (4, 114), (4, 115), (1, 1), (4, 116)] (by decide +kernel)
set_option maxRecDepth 200000 in
theorem w_L_158 : ∀ x ∈ [Jvm.Cond.methodLink RL 158 yX7_seed, .instanceMethod yX7_seed, .selects yX7_seed.cls yX7_seed yX7_seed, .initialized yX7_seed.cls, .code yX7_seed cX7_seed 3 (some .int)], x ∈ xBig := xBig_ix [(6, 177), (6, 178), (6, 179), (1, 8), (6, 180)] (by decide +kernel)
set_option maxRecDepth 200000 in
theorem w_L_159 : ∀ x ∈ [Jvm.Cond.methodLink RL 159 yX6_act, .instanceMethod yX6_act, .selects yX6_act.cls yX6_act yX6_act, .initialized yX6_act.cls, .code yX6_act cX6_act 5 (some .int)], x ∈ xBig := xBig_ix [(4, 117), (4, 118), (4, 119), (1, 1), (4, 120)] (by decide +kernel)
set_option maxRecDepth 200000 in
theorem w_L_162 : ∀ x ∈ [Jvm.Cond.methodLink RL 162 yX7_act, .instanceMethod yX7_act, .selects yX7_act.cls yX7_act yX7_act, .initialized yX7_act.cls, .code yX7_act cX7_act 4 (some .int)], x ∈ xBig := xBig_ix [(6, 181), (6, 182), (6, 183), (1, 8), (6, 184)] (by decide +kernel)
set_option maxRecDepth 200000 in
theorem w_L_163 : ∀ x ∈ [Jvm.Cond.methodLink RL 163 yX6_trace, .instanceMethod yX6_trace, .selects yX6_trace.cls yX6_trace yX6_trace, .initialized yX6_trace.cls, .code yX6_trace cX6_trace 2 (some .int)], x ∈ xBig := xBig_ix [(4, 141), (4, 142), (4, 143), (1, 1), (4, 144)] (by decide +kernel)
set_option maxRecDepth 200000 in
theorem w_L_166 : ∀ x ∈ [Jvm.Cond.methodLink RL 166 yX7_trace, .instanceMethod yX7_trace, .selects yX7_trace.cls yX7_trace yX7_trace, .initialized yX7_trace.cls, .code yX7_trace cX7_trace 2 (some .int)], x ∈ xBig := xBig_ix [(6, 201), (6, 202), (6, 203), (1, 8), (6, 204)] (by decide +kernel)
set_option maxRecDepth 200000 in
theorem w_L_167 : ∀ x ∈ [Jvm.Cond.methodLink RL 167 yX6_image, .instanceMethod yX6_image, .selects yX6_image.cls yX6_image yX6_image, .initialized yX6_image.cls, .code yX6_image cX6_image 1 (some .int)], x ∈ xBig := xBig_ix [(4, 149), (4, 150), (4, 151), (1, 1), (4, 152)] (by decide +kernel)
set_option maxRecDepth 200000 in
theorem w_L_170 : ∀ x ∈ [Jvm.Cond.methodLink RL 170 yX7_image, .instanceMethod yX7_image, .selects yX7_image.cls yX7_image yX7_image, .initialized yX7_image.cls, .code yX7_image cX7_image 1 (some .int)], x ∈ xBig := xBig_ix [(6, 205), (6, 206), (6, 207), (1, 8), (6, 208)] (by decide +kernel)
set_option maxRecDepth 200000 in
theorem w_L_171 : ∀ x ∈ [Jvm.Cond.methodLink RL 171 yX6_restore, .instanceMethod yX6_restore, .selects yX6_restore.cls yX6_restore yX6_restore, .initialized yX6_restore.cls, .code yX6_restore cX6_restore 1 (some .int)], x ∈ xBig := xBig_ix [(4, 153), (4, 154), (4, 155), (1, 1), (4, 156)] (by decide +kernel)
set_option maxRecDepth 200000 in
theorem w_L_174 : ∀ x ∈ [Jvm.Cond.methodLink RL 174 yX7_restore, .instanceMethod yX7_restore, .selects yX7_restore.cls yX7_restore yX7_restore, .initialized yX7_restore.cls, .code yX7_restore cX7_restore 2 (some .int)], x ∈ xBig := xBig_ix [(6, 209), (6, 210), (6, 211), (1, 8), (6, 212)] (by decide +kernel)
set_option maxRecDepth 200000 in
theorem w_L_175 : ∀ x ∈ [Jvm.Cond.methodLink RL 175 yX6_status, .instanceMethod yX6_status, .selects yX6_status.cls yX6_status yX6_status, .initialized yX6_status.cls, .code yX6_status cX6_status 3 (some .int)], x ∈ xBig := xBig_ix [(4, 157), (4, 158), (4, 159), (1, 1), (4, 160)] (by decide +kernel)
set_option maxRecDepth 200000 in
theorem w_L_178 : ∀ x ∈ [Jvm.Cond.methodLink RL 178 yX7_status, .instanceMethod yX7_status, .selects yX7_status.cls yX7_status yX7_status, .initialized yX7_status.cls, .code yX7_status cX7_status 4 (some .int)], x ∈ xBig := xBig_ix [(6, 213), (6, 214), (6, 215), (1, 8), (6, 216)] (by decide +kernel)
