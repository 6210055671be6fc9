set_option maxRecDepth 200000 in
theorem w_X2_99 : ∀ x ∈ [Jvm.Cond.methodLink RX2 99 yJ0_length_8abf5, .instanceMethod yJ0_length_8abf5, .selects yJ0_length_8abf5.cls yJ0_length_8abf5 yJ0_length_8abf5, .initialized yJ0_length_8abf5.cls, .code yJ0_length_8abf5 cJ0_length_8abf5 1 (some .int)], x ∈ xBig := xBig_ix [(3, 30), (3, 31), (3, 32), (1, 12), (3, 33)] (by decide +kernel)
set_option maxRecDepth 200000 in
theorem w_X2_104 : ∀ x ∈ [Jvm.Cond.methodLink RX2 104 Lib.Math.max.name, .static Lib.Math.max.name, .initialized "java/lang/Math", .code Lib.Math.max.name Lib.Math.max.code 2 (some .int)], x ∈ xBig := xBig_of (by decide +kernel)
set_option maxRecDepth 200000 in
theorem w_X2_113 : ∀ x ∈ [Jvm.Cond.methodLink RX2 113 yJ0_charAt_5068e, .instanceMethod yJ0_charAt_5068e, .selects yJ0_charAt_5068e.cls yJ0_charAt_5068e yJ0_charAt_5068e, .initialized yJ0_charAt_5068e.cls, .code yJ0_charAt_5068e cJ0_charAt_5068e 2 (some .char)], x ∈ xBig := xBig_ix [(3, 44), (3, 45), (3, 46), (1, 12), (3, 47)] (by decide +kernel)
set_option maxRecDepth 200000 in
theorem w_X3_38 : ∀ x ∈ [Jvm.Cond.methodLink RX3 38 arraycopyName, .native arraycopyName, .static arraycopyName, .initialized "java/lang/System"], x ∈ xBig := xBig_of (by decide +kernel)
set_option maxRecDepth 200000 in
theorem w_X4_122 : ∀ x ∈ [Jvm.Cond.methodLink RX4 122 yJ6_bitCount_0f7a4, .static yJ6_bitCount_0f7a4, .initialized yJ6_bitCount_0f7a4.cls, .code yJ6_bitCount_0f7a4 cJ6_bitCount_0f7a4 1 (some .int)], x ∈ xBig := xBig_ix [(2, 130), (2, 131), (1, 10), (2, 132)] (by decide +kernel)
set_option maxRecDepth 200000 in
theorem w_X5_49 : ∀ x ∈ [Jvm.Cond.methodLink RX5 49 Lib.Math.abs.name, .static Lib.Math.abs.name, .initialized "java/lang/Math", .code Lib.Math.abs.name Lib.Math.abs.code 1 (some .int)], x ∈ xBig := xBig_of (by decide +kernel)
set_option maxRecDepth 200000 in
theorem w_X6_292 : ∀ x ∈ [Jvm.Cond.methodLink RX6 292 yJ13_bitCount_95d88, .static yJ13_bitCount_95d88, .initialized yJ13_bitCount_95d88.cls, .code yJ13_bitCount_95d88 cJ13_bitCount_95d88 2 (some .int)], x ∈ xBig := xBig_ix [(4, 161), (4, 162), (1, 16), (4, 163)] (by decide +kernel)
set_option maxRecDepth 200000 in
theorem w_X6_307 : ∀ x ∈ [Jvm.Cond.methodLink RX6 307 Lib.Math.max.name, .static Lib.Math.max.name, .initialized "java/lang/Math", .code Lib.Math.max.name Lib.Math.max.code 2 (some .int)], x ∈ xBig := xBig_of (by decide +kernel)
