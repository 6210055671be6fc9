theorem dX0_init_0 : decode cX0_init 0 = .ok (.aload_n 0, 1) := by decide +kernel
theorem dX0_init_1 : decode cX0_init 1 = .ok (.invokespecial 3, 3) := by decide +kernel
theorem dX0_init_4 : decode cX0_init 4 = .ok (.aload_n 0, 1) := by decide +kernel
theorem dX0_init_5 : decode cX0_init 5 = .ok (.iconst 0, 1) := by decide +kernel
theorem dX0_init_6 : decode cX0_init 6 = .ok (.putfield 9, 3) := by decide +kernel
theorem dX0_init_9 : decode cX0_init 9 = .ok (.aload_n 0, 1) := by decide +kernel
theorem dX0_init_10 : decode cX0_init 10 = .ok (.iconst 0, 1) := by decide +kernel
theorem dX0_init_11 : decode cX0_init 11 = .ok (.putfield 15, 3) := by decide +kernel
theorem dX0_init_14 : decode cX0_init 14 = .ok (.aload_n 0, 1) := by decide +kernel
theorem dX0_init_15 : decode cX0_init 15 = .ok (.iconst 0, 1) := by decide +kernel
theorem dX0_init_16 : decode cX0_init 16 = .ok (.putfield 18, 3) := by decide +kernel
theorem dX0_init_19 : decode cX0_init 19 = .ok (.aload_n 0, 1) := by decide +kernel
theorem dX0_init_20 : decode cX0_init 20 = .ok (.iconst 0, 1) := by decide +kernel
theorem dX0_init_21 : decode cX0_init 21 = .ok (.putfield 21, 3) := by decide +kernel
theorem dX0_init_24 : decode cX0_init 24 = .ok (.aload_n 0, 1) := by decide +kernel
theorem dX0_init_25 : decode cX0_init 25 = .ok (.bipush 20, 2) := by decide +kernel
theorem dX0_init_27 : decode cX0_init 27 = .ok (.newarray .int, 2) := by decide +kernel
theorem dX0_init_29 : decode cX0_init 29 = .ok (.putfield 24, 3) := by decide +kernel
theorem dX0_init_32 : decode cX0_init 32 = .ok (.return_, 1) := by decide +kernel
theorem dX0_forget_0 : decode cX0_forget 0 = .ok (.aload_n 0, 1) := by decide +kernel
theorem dX0_forget_1 : decode cX0_forget 1 = .ok (.iconst 0, 1) := by decide +kernel
theorem dX0_forget_2 : decode cX0_forget 2 = .ok (.putfield 9, 3) := by decide +kernel
theorem dX0_forget_5 : decode cX0_forget 5 = .ok (.return_, 1) := by decide +kernel
theorem dX0_perform_0 : decode cX0_perform 0 = .ok (.aload_n 0, 1) := by decide +kernel
theorem dX0_perform_1 : decode cX0_perform 1 = .ok (.iload_n 1, 1) := by decide +kernel
theorem dX0_perform_2 : decode cX0_perform 2 = .ok (.putfield 15, 3) := by decide +kernel
theorem dX0_perform_5 : decode cX0_perform 5 = .ok (.aload_n 0, 1) := by decide +kernel
theorem dX0_perform_6 : decode cX0_perform 6 = .ok (.iload_n 2, 1) := by decide +kernel
theorem dX0_perform_7 : decode cX0_perform 7 = .ok (.putfield 18, 3) := by decide +kernel
theorem dX0_perform_10 : decode cX0_perform 10 = .ok (.aload_n 0, 1) := by decide +kernel
theorem dX0_perform_11 : decode cX0_perform 11 = .ok (.iload_n 3, 1) := by decide +kernel
theorem dX0_perform_12 : decode cX0_perform 12 = .ok (.putfield 21, 3) := by decide +kernel
theorem dX0_perform_15 : decode cX0_perform 15 = .ok (.aload_n 0, 1) := by decide +kernel
theorem dX0_perform_16 : decode cX0_perform 16 = .ok (.aload_n 0, 1) := by decide +kernel
theorem dX0_perform_17 : decode cX0_perform 17 = .ok (.getfield 15, 3) := by decide +kernel
theorem dX0_perform_20 : decode cX0_perform 20 = .ok (.iload 4, 2) := by decide +kernel
theorem dX0_perform_22 : decode cX0_perform 22 = .ok (.iload 5, 2) := by decide +kernel
theorem dX0_perform_24 : decode cX0_perform 24 = .ok (.iconst 0, 1) := by decide +kernel
theorem dX0_perform_25 : decode cX0_perform 25 = .ok (.invokestatic 28, 3) := by decide +kernel
theorem dX0_perform_28 : decode cX0_perform 28 = .ok (.ireturn, 1) := by decide +kernel
theorem dX0_bodyAt_0 : decode cX0_bodyAt 0 = .ok (.iload_n 1, 1) := by decide +kernel
theorem dX0_bodyAt_1 : decode cX0_bodyAt 1 = .ok (.ifCond .lt 29, 3) := by decide +kernel
theorem dX0_bodyAt_4 : decode cX0_bodyAt 4 = .ok (.iload_n 1, 1) := by decide +kernel
theorem dX0_bodyAt_5 : decode cX0_bodyAt 5 = .ok (.aload_n 0, 1) := by decide +kernel
theorem dX0_bodyAt_6 : decode cX0_bodyAt 6 = .ok (.getfield 9, 3) := by decide +kernel
theorem dX0_bodyAt_9 : decode cX0_bodyAt 9 = .ok (.if_icmp .ge 21, 3) := by decide +kernel
theorem dX0_bodyAt_12 : decode cX0_bodyAt 12 = .ok (.iload_n 1, 1) := by decide +kernel
theorem dX0_bodyAt_13 : decode cX0_bodyAt 13 = .ok (.aload_n 0, 1) := by decide +kernel
theorem dX0_bodyAt_14 : decode cX0_bodyAt 14 = .ok (.getfield 24, 3) := by decide +kernel
theorem dX0_bodyAt_17 : decode cX0_bodyAt 17 = .ok (.arraylength, 1) := by decide +kernel
theorem dX0_bodyAt_18 : decode cX0_bodyAt 18 = .ok (.if_icmp .ge 12, 3) := by decide +kernel
theorem dX0_bodyAt_21 : decode cX0_bodyAt 21 = .ok (.aload_n 0, 1) := by decide +kernel
theorem dX0_bodyAt_22 : decode cX0_bodyAt 22 = .ok (.getfield 24, 3) := by decide +kernel
theorem dX0_bodyAt_25 : decode cX0_bodyAt 25 = .ok (.iload_n 1, 1) := by decide +kernel
theorem dX0_bodyAt_26 : decode cX0_bodyAt 26 = .ok (.iaload, 1) := by decide +kernel
theorem dX0_bodyAt_27 : decode cX0_bodyAt 27 = .ok (.goto 4, 3) := by decide +kernel
theorem dX0_bodyAt_30 : decode cX0_bodyAt 30 = .ok (.iconst (-1), 1) := by decide +kernel
theorem dX0_bodyAt_31 : decode cX0_bodyAt 31 = .ok (.ireturn, 1) := by decide +kernel
theorem dX0_note_0 : decode cX0_note 0 = .ok (.aload_n 0, 1) := by decide +kernel
theorem dX0_note_1 : decode cX0_note 1 = .ok (.getfield 9, 3) := by decide +kernel
theorem dX0_note_4 : decode cX0_note 4 = .ok (.ifCond .lt 25, 3) := by decide +kernel
theorem dX0_note_7 : decode cX0_note 7 = .ok (.aload_n 0, 1) := by decide +kernel
theorem dX0_note_8 : decode cX0_note 8 = .ok (.getfield 9, 3) := by decide +kernel
theorem dX0_note_11 : decode cX0_note 11 = .ok (.aload_n 0, 1) := by decide +kernel
theorem dX0_note_12 : decode cX0_note 12 = .ok (.getfield 24, 3) := by decide +kernel
theorem dX0_note_15 : decode cX0_note 15 = .ok (.arraylength, 1) := by decide +kernel
theorem dX0_note_16 : decode cX0_note 16 = .ok (.if_icmp .ge 13, 3) := by decide +kernel
theorem dX0_note_19 : decode cX0_note 19 = .ok (.aload_n 0, 1) := by decide +kernel
theorem dX0_note_20 : decode cX0_note 20 = .ok (.getfield 24, 3) := by decide +kernel
theorem dX0_note_23 : decode cX0_note 23 = .ok (.aload_n 0, 1) := by decide +kernel
theorem dX0_note_24 : decode cX0_note 24 = .ok (.getfield 9, 3) := by decide +kernel
theorem dX0_note_27 : decode cX0_note 27 = .ok (.iload_n 1, 1) := by decide +kernel
theorem dX0_note_28 : decode cX0_note 28 = .ok (.iastore, 1) := by decide +kernel
theorem dX0_note_29 : decode cX0_note 29 = .ok (.aload_n 0, 1) := by decide +kernel
theorem dX0_note_30 : decode cX0_note 30 = .ok (.dup, 1) := by decide +kernel
theorem dX0_note_31 : decode cX0_note 31 = .ok (.getfield 9, 3) := by decide +kernel
theorem dX0_note_34 : decode cX0_note 34 = .ok (.iconst 1, 1) := by decide +kernel
theorem dX0_note_35 : decode cX0_note 35 = .ok (.iadd, 1) := by decide +kernel
theorem dX0_note_36 : decode cX0_note 36 = .ok (.putfield 9, 3) := by decide +kernel
theorem dX0_note_39 : decode cX0_note 39 = .ok (.return_, 1) := by decide +kernel
theorem dX0_above_0 : decode cX0_above 0 = .ok (.iload_n 0, 1) := by decide +kernel
theorem dX0_above_1 : decode cX0_above 1 = .ok (.ifCond .lt 19, 3) := by decide +kernel
theorem dX0_above_4 : decode cX0_above 4 = .ok (.iload_n 0, 1) := by decide +kernel
theorem dX0_above_5 : decode cX0_above 5 = .ok (.getstatic 32, 3) := by decide +kernel
theorem dX0_above_8 : decode cX0_above 8 = .ok (.arraylength, 1) := by decide +kernel
theorem dX0_above_9 : decode cX0_above 9 = .ok (.if_icmp .ge 11, 3) := by decide +kernel
theorem dX0_above_12 : decode cX0_above 12 = .ok (.getstatic 32, 3) := by decide +kernel
theorem dX0_above_15 : decode cX0_above 15 = .ok (.iload_n 0, 1) := by decide +kernel
theorem dX0_above_16 : decode cX0_above 16 = .ok (.iaload, 1) := by decide +kernel
theorem dX0_above_17 : decode cX0_above 17 = .ok (.goto 4, 3) := by decide +kernel
theorem dX0_above_20 : decode cX0_above 20 = .ok (.iconst (-1), 1) := by decide +kernel
theorem dX0_above_21 : decode cX0_above 21 = .ok (.ireturn, 1) := by decide +kernel
theorem dX0_isUnder_0 : decode cX0_isUnder 0 = .ok (.iload_n 0, 1) := by decide +kernel
theorem dX0_isUnder_1 : decode cX0_isUnder 1 = .ok (.istore_n 2, 1) := by decide +kernel
theorem dX0_isUnder_2 : decode cX0_isUnder 2 = .ok (.iconst 0, 1) := by decide +kernel
theorem dX0_isUnder_3 : decode cX0_isUnder 3 = .ok (.istore_n 3, 1) := by decide +kernel
theorem dX0_isUnder_4 : decode cX0_isUnder 4 = .ok (.iload_n 3, 1) := by decide +kernel
theorem dX0_isUnder_5 : decode cX0_isUnder 5 = .ok (.bipush 6, 2) := by decide +kernel
theorem dX0_isUnder_7 : decode cX0_isUnder 7 = .ok (.if_icmp .gt 26, 3) := by decide +kernel
theorem dX0_isUnder_10 : decode cX0_isUnder 10 = .ok (.iload_n 2, 1) := by decide +kernel
theorem dX0_isUnder_11 : decode cX0_isUnder 11 = .ok (.iconst (-1), 1) := by decide +kernel
theorem dX0_isUnder_12 : decode cX0_isUnder 12 = .ok (.if_icmp .eq 21, 3) := by decide +kernel
theorem dX0_isUnder_15 : decode cX0_isUnder 15 = .ok (.iload_n 2, 1) := by decide +kernel
theorem dX0_isUnder_16 : decode cX0_isUnder 16 = .ok (.iload_n 1, 1) := by decide +kernel
theorem dX0_isUnder_17 : decode cX0_isUnder 17 = .ok (.if_icmp .ne 5, 3) := by decide +kernel
theorem dX0_isUnder_20 : decode cX0_isUnder 20 = .ok (.iconst 1, 1) := by decide +kernel
theorem dX0_isUnder_21 : decode cX0_isUnder 21 = .ok (.ireturn, 1) := by decide +kernel
theorem dX0_isUnder_22 : decode cX0_isUnder 22 = .ok (.iload_n 2, 1) := by decide +kernel
theorem dX0_isUnder_23 : decode cX0_isUnder 23 = .ok (.invokestatic 35, 3) := by decide +kernel
theorem dX0_isUnder_26 : decode cX0_isUnder 26 = .ok (.istore_n 2, 1) := by decide +kernel
theorem dX0_isUnder_27 : decode cX0_isUnder 27 = .ok (.iinc 3 1, 3) := by decide +kernel
theorem dX0_isUnder_30 : decode cX0_isUnder 30 = .ok (.goto (-26), 3) := by decide +kernel
theorem dX0_isUnder_33 : decode cX0_isUnder 33 = .ok (.iconst 0, 1) := by decide +kernel
theorem dX0_isUnder_34 : decode cX0_isUnder 34 = .ok (.ireturn, 1) := by decide +kernel
theorem dX0_bodyFor_0 : decode cX0_bodyFor 0 = .ok (.iload_n 0, 1) := by decide +kernel
theorem dX0_bodyFor_1 : decode cX0_bodyFor 1 = .ok (.istore_n 2, 1) := by decide +kernel
theorem dX0_bodyFor_2 : decode cX0_bodyFor 2 = .ok (.iconst 0, 1) := by decide +kernel
theorem dX0_bodyFor_3 : decode cX0_bodyFor 3 = .ok (.istore_n 3, 1) := by decide +kernel
theorem dX0_bodyFor_4 : decode cX0_bodyFor 4 = .ok (.iload_n 3, 1) := by decide +kernel
theorem dX0_bodyFor_5 : decode cX0_bodyFor 5 = .ok (.bipush 6, 2) := by decide +kernel
theorem dX0_bodyFor_7 : decode cX0_bodyFor 7 = .ok (.if_icmp .gt 56, 3) := by decide +kernel
theorem dX0_bodyFor_10 : decode cX0_bodyFor 10 = .ok (.iload_n 2, 1) := by decide +kernel
theorem dX0_bodyFor_11 : decode cX0_bodyFor 11 = .ok (.iconst (-1), 1) := by decide +kernel
theorem dX0_bodyFor_12 : decode cX0_bodyFor 12 = .ok (.if_icmp .eq 51, 3) := by decide +kernel
theorem dX0_bodyFor_15 : decode cX0_bodyFor 15 = .ok (.iload_n 2, 1) := by decide +kernel
theorem dX0_bodyFor_16 : decode cX0_bodyFor 16 = .ok (.iconst 3, 1) := by decide +kernel
theorem dX0_bodyFor_17 : decode cX0_bodyFor 17 = .ok (.imul, 1) := by decide +kernel
theorem dX0_bodyFor_18 : decode cX0_bodyFor 18 = .ok (.iload_n 1, 1) := by decide +kernel
theorem dX0_bodyFor_19 : decode cX0_bodyFor 19 = .ok (.iadd, 1) := by decide +kernel
theorem dX0_bodyFor_20 : decode cX0_bodyFor 20 = .ok (.istore 4, 2) := by decide +kernel
theorem dX0_bodyFor_22 : decode cX0_bodyFor 22 = .ok (.iload 4, 2) := by decide +kernel
theorem dX0_bodyFor_24 : decode cX0_bodyFor 24 = .ok (.ifCond .lt 28, 3) := by decide +kernel
theorem dX0_bodyFor_27 : decode cX0_bodyFor 27 = .ok (.iload 4, 2) := by decide +kernel
theorem dX0_bodyFor_29 : decode cX0_bodyFor 29 = .ok (.getstatic 39, 3) := by decide +kernel
theorem dX0_bodyFor_32 : decode cX0_bodyFor 32 = .ok (.arraylength, 1) := by decide +kernel
theorem dX0_bodyFor_33 : decode cX0_bodyFor 33 = .ok (.if_icmp .ge 19, 3) := by decide +kernel
theorem dX0_bodyFor_36 : decode cX0_bodyFor 36 = .ok (.getstatic 39, 3) := by decide +kernel
theorem dX0_bodyFor_39 : decode cX0_bodyFor 39 = .ok (.iload 4, 2) := by decide +kernel
theorem dX0_bodyFor_41 : decode cX0_bodyFor 41 = .ok (.iaload, 1) := by decide +kernel
theorem dX0_bodyFor_42 : decode cX0_bodyFor 42 = .ok (.ifCond .eq 10, 3) := by decide +kernel
theorem dX0_bodyFor_45 : decode cX0_bodyFor 45 = .ok (.getstatic 39, 3) := by decide +kernel
theorem dX0_bodyFor_48 : decode cX0_bodyFor 48 = .ok (.iload 4, 2) := by decide +kernel
theorem dX0_bodyFor_50 : decode cX0_bodyFor 50 = .ok (.iaload, 1) := by decide +kernel
theorem dX0_bodyFor_51 : decode cX0_bodyFor 51 = .ok (.ireturn, 1) := by decide +kernel
theorem dX0_bodyFor_52 : decode cX0_bodyFor 52 = .ok (.iload_n 2, 1) := by decide +kernel
theorem dX0_bodyFor_53 : decode cX0_bodyFor 53 = .ok (.invokestatic 35, 3) := by decide +kernel
theorem dX0_bodyFor_56 : decode cX0_bodyFor 56 = .ok (.istore_n 2, 1) := by decide +kernel
theorem dX0_bodyFor_57 : decode cX0_bodyFor 57 = .ok (.iinc 3 1, 3) := by decide +kernel
theorem dX0_bodyFor_60 : decode cX0_bodyFor 60 = .ok (.goto (-56), 3) := by decide +kernel
theorem dX0_bodyFor_63 : decode cX0_bodyFor 63 = .ok (.iconst (-1), 1) := by decide +kernel
theorem dX0_bodyFor_64 : decode cX0_bodyFor 64 = .ok (.ireturn, 1) := by decide +kernel
theorem dX0_runBody_0 : decode cX0_runBody 0 = .ok (.iload 4, 2) := by decide +kernel
theorem dX0_runBody_2 : decode cX0_runBody 2 = .ok (.bipush 20, 2) := by decide +kernel
theorem dX0_runBody_4 : decode cX0_runBody 4 = .ok (.if_icmp .le 5, 3) := by decide +kernel
theorem dX0_runBody_7 : decode cX0_runBody 7 = .ok (.iconst 0, 1) := by decide +kernel
theorem dX0_runBody_8 : decode cX0_runBody 8 = .ok (.ireturn, 1) := by decide +kernel
theorem dX0_runBody_9 : decode cX0_runBody 9 = .ok (.iload 4, 2) := by decide +kernel
theorem dX0_runBody_11 : decode cX0_runBody 11 = .ok (.iconst 1, 1) := by decide +kernel
theorem dX0_runBody_12 : decode cX0_runBody 12 = .ok (.iadd, 1) := by decide +kernel
theorem dX0_runBody_13 : decode cX0_runBody 13 = .ok (.istore 5, 2) := by decide +kernel
theorem dX0_runBody_15 : decode cX0_runBody 15 = .ok (.iload_n 1, 1) := by decide +kernel
theorem dX0_runBody_16 : decode cX0_runBody 16 = .ok (.iload_n 2, 1) := by decide +kernel
theorem dX0_runBody_17 : decode cX0_runBody 17 = .ok (.invokestatic 42, 3) := by decide +kernel
theorem dX0_runBody_20 : decode cX0_runBody 20 = .ok (.istore 6, 2) := by decide +kernel
theorem dX0_runBody_22 : decode cX0_runBody 22 = .ok (.aload_n 0, 1) := by decide +kernel
theorem dX0_runBody_23 : decode cX0_runBody 23 = .ok (.iload 6, 2) := by decide +kernel
theorem dX0_runBody_25 : decode cX0_runBody 25 = .ok (.invokevirtual 46, 3) := by decide +kernel
theorem dX0_runBody_28 : decode cX0_runBody 28 = .ok (.iload 6, 2) := by decide +kernel
theorem dX0_runBody_30 : decode cX0_runBody 30 = .ok (.lookupswitch 255 #[(10, 98), (11, 105), (12, 120), (20, 151), (30, 166), (40, 178), (50, 190), (51, 201), (60, 216), (70, 228), (71, 240)], 98) := by decide +kernel
theorem dX0_runBody_128 : decode cX0_runBody 128 = .ok (.iload_n 3, 1) := by decide +kernel
theorem dX0_runBody_129 : decode cX0_runBody 129 = .ok (.aload_n 0, 1) := by decide +kernel
theorem dX0_runBody_130 : decode cX0_runBody 130 = .ok (.getfield 18, 3) := by decide +kernel
theorem dX0_runBody_133 : decode cX0_runBody 133 = .ok (.iadd, 1) := by decide +kernel
theorem dX0_runBody_134 : decode cX0_runBody 134 = .ok (.ireturn, 1) := by decide +kernel
theorem dX0_runBody_135 : decode cX0_runBody 135 = .ok (.aload_n 0, 1) := by decide +kernel
theorem dX0_runBody_136 : decode cX0_runBody 136 = .ok (.aload_n 0, 1) := by decide +kernel
theorem dX0_runBody_137 : decode cX0_runBody 137 = .ok (.getfield 15, 3) := by decide +kernel
theorem dX0_runBody_140 : decode cX0_runBody 140 = .ok (.iconst 0, 1) := by decide +kernel
theorem dX0_runBody_141 : decode cX0_runBody 141 = .ok (.iload_n 3, 1) := by decide +kernel
theorem dX0_runBody_142 : decode cX0_runBody 142 = .ok (.iload 5, 2) := by decide +kernel
theorem dX0_runBody_144 : decode cX0_runBody 144 = .ok (.invokestatic 28, 3) := by decide +kernel
theorem dX0_runBody_147 : decode cX0_runBody 147 = .ok (.iconst 2, 1) := by decide +kernel
theorem dX0_runBody_148 : decode cX0_runBody 148 = .ok (.imul, 1) := by decide +kernel
theorem dX0_runBody_149 : decode cX0_runBody 149 = .ok (.ireturn, 1) := by decide +kernel
theorem dX0_runBody_150 : decode cX0_runBody 150 = .ok (.aload_n 0, 1) := by decide +kernel
theorem dX0_runBody_151 : decode cX0_runBody 151 = .ok (.aload_n 0, 1) := by decide +kernel
theorem dX0_runBody_152 : decode cX0_runBody 152 = .ok (.getfield 15, 3) := by decide +kernel
theorem dX0_runBody_155 : decode cX0_runBody 155 = .ok (.iconst 1, 1) := by decide +kernel
theorem dX0_runBody_156 : decode cX0_runBody 156 = .ok (.iload_n 3, 1) := by decide +kernel
theorem dX0_runBody_157 : decode cX0_runBody 157 = .ok (.iload 5, 2) := by decide +kernel
theorem dX0_runBody_159 : decode cX0_runBody 159 = .ok (.invokestatic 28, 3) := by decide +kernel
theorem dX0_runBody_162 : decode cX0_runBody 162 = .ok (.aload_n 0, 1) := by decide +kernel
theorem dX0_runBody_163 : decode cX0_runBody 163 = .ok (.aload_n 0, 1) := by decide +kernel
theorem dX0_runBody_164 : decode cX0_runBody 164 = .ok (.getfield 15, 3) := by decide +kernel
theorem dX0_runBody_167 : decode cX0_runBody 167 = .ok (.iconst 0, 1) := by decide +kernel
theorem dX0_runBody_168 : decode cX0_runBody 168 = .ok (.iload_n 3, 1) := by decide +kernel
theorem dX0_runBody_169 : decode cX0_runBody 169 = .ok (.aload_n 0, 1) := by decide +kernel
theorem dX0_runBody_170 : decode cX0_runBody 170 = .ok (.getfield 21, 3) := by decide +kernel
theorem dX0_runBody_173 : decode cX0_runBody 173 = .ok (.isub, 1) := by decide +kernel
theorem dX0_runBody_174 : decode cX0_runBody 174 = .ok (.iload 5, 2) := by decide +kernel
theorem dX0_runBody_176 : decode cX0_runBody 176 = .ok (.invokestatic 28, 3) := by decide +kernel
theorem dX0_runBody_179 : decode cX0_runBody 179 = .ok (.ixor, 1) := by decide +kernel
theorem dX0_runBody_180 : decode cX0_runBody 180 = .ok (.ireturn, 1) := by decide +kernel
theorem dX0_runBody_181 : decode cX0_runBody 181 = .ok (.aload_n 0, 1) := by decide +kernel
theorem dX0_runBody_182 : decode cX0_runBody 182 = .ok (.iconst 0, 1) := by decide +kernel
theorem dX0_runBody_183 : decode cX0_runBody 183 = .ok (.iconst 0, 1) := by decide +kernel
theorem dX0_runBody_184 : decode cX0_runBody 184 = .ok (.iload_n 3, 1) := by decide +kernel
theorem dX0_runBody_185 : decode cX0_runBody 185 = .ok (.iload 5, 2) := by decide +kernel
theorem dX0_runBody_187 : decode cX0_runBody 187 = .ok (.invokestatic 28, 3) := by decide +kernel
theorem dX0_runBody_190 : decode cX0_runBody 190 = .ok (.aload_n 0, 1) := by decide +kernel
theorem dX0_runBody_191 : decode cX0_runBody 191 = .ok (.getfield 21, 3) := by decide +kernel
theorem dX0_runBody_194 : decode cX0_runBody 194 = .ok (.iadd, 1) := by decide +kernel
theorem dX0_runBody_195 : decode cX0_runBody 195 = .ok (.ireturn, 1) := by decide +kernel
theorem dX0_runBody_196 : decode cX0_runBody 196 = .ok (.aload_n 0, 1) := by decide +kernel
theorem dX0_runBody_197 : decode cX0_runBody 197 = .ok (.iconst 0, 1) := by decide +kernel
theorem dX0_runBody_198 : decode cX0_runBody 198 = .ok (.iconst 1, 1) := by decide +kernel
theorem dX0_runBody_199 : decode cX0_runBody 199 = .ok (.iload_n 3, 1) := by decide +kernel
theorem dX0_runBody_200 : decode cX0_runBody 200 = .ok (.iload 5, 2) := by decide +kernel
theorem dX0_runBody_202 : decode cX0_runBody 202 = .ok (.invokestatic 28, 3) := by decide +kernel
theorem dX0_runBody_205 : decode cX0_runBody 205 = .ok (.iconst 3, 1) := by decide +kernel
theorem dX0_runBody_206 : decode cX0_runBody 206 = .ok (.imul, 1) := by decide +kernel
theorem dX0_runBody_207 : decode cX0_runBody 207 = .ok (.ireturn, 1) := by decide +kernel
theorem dX0_runBody_208 : decode cX0_runBody 208 = .ok (.aload_n 0, 1) := by decide +kernel
theorem dX0_runBody_209 : decode cX0_runBody 209 = .ok (.iconst 0, 1) := by decide +kernel
theorem dX0_runBody_210 : decode cX0_runBody 210 = .ok (.iconst 1, 1) := by decide +kernel
theorem dX0_runBody_211 : decode cX0_runBody 211 = .ok (.iload_n 3, 1) := by decide +kernel
theorem dX0_runBody_212 : decode cX0_runBody 212 = .ok (.iconst 1, 1) := by decide +kernel
theorem dX0_runBody_213 : decode cX0_runBody 213 = .ok (.iadd, 1) := by decide +kernel
theorem dX0_runBody_214 : decode cX0_runBody 214 = .ok (.iload 5, 2) := by decide +kernel
theorem dX0_runBody_216 : decode cX0_runBody 216 = .ok (.invokestatic 28, 3) := by decide +kernel
theorem dX0_runBody_219 : decode cX0_runBody 219 = .ok (.ireturn, 1) := by decide +kernel
theorem dX0_runBody_220 : decode cX0_runBody 220 = .ok (.aload_n 0, 1) := by decide +kernel
theorem dX0_runBody_221 : decode cX0_runBody 221 = .ok (.iconst 3, 1) := by decide +kernel
theorem dX0_runBody_222 : decode cX0_runBody 222 = .ok (.iconst 2, 1) := by decide +kernel
theorem dX0_runBody_223 : decode cX0_runBody 223 = .ok (.iload_n 3, 1) := by decide +kernel
theorem dX0_runBody_224 : decode cX0_runBody 224 = .ok (.iload 5, 2) := by decide +kernel
theorem dX0_runBody_226 : decode cX0_runBody 226 = .ok (.invokestatic 28, 3) := by decide +kernel
theorem dX0_runBody_229 : decode cX0_runBody 229 = .ok (.ineg, 1) := by decide +kernel
theorem dX0_runBody_230 : decode cX0_runBody 230 = .ok (.ireturn, 1) := by decide +kernel
theorem dX0_runBody_231 : decode cX0_runBody 231 = .ok (.aload_n 0, 1) := by decide +kernel
theorem dX0_runBody_232 : decode cX0_runBody 232 = .ok (.iconst 3, 1) := by decide +kernel
theorem dX0_runBody_233 : decode cX0_runBody 233 = .ok (.iconst 0, 1) := by decide +kernel
theorem dX0_runBody_234 : decode cX0_runBody 234 = .ok (.iload_n 3, 1) := by decide +kernel
theorem dX0_runBody_235 : decode cX0_runBody 235 = .ok (.iload 5, 2) := by decide +kernel
theorem dX0_runBody_237 : decode cX0_runBody 237 = .ok (.invokestatic 28, 3) := by decide +kernel
theorem dX0_runBody_240 : decode cX0_runBody 240 = .ok (.aload_n 0, 1) := by decide +kernel
theorem dX0_runBody_241 : decode cX0_runBody 241 = .ok (.getfield 18, 3) := by decide +kernel
theorem dX0_runBody_244 : decode cX0_runBody 244 = .ok (.isub, 1) := by decide +kernel
theorem dX0_runBody_245 : decode cX0_runBody 245 = .ok (.ireturn, 1) := by decide +kernel
theorem dX0_runBody_246 : decode cX0_runBody 246 = .ok (.aload_n 0, 1) := by decide +kernel
theorem dX0_runBody_247 : decode cX0_runBody 247 = .ok (.iconst 1, 1) := by decide +kernel
theorem dX0_runBody_248 : decode cX0_runBody 248 = .ok (.iconst 2, 1) := by decide +kernel
theorem dX0_runBody_249 : decode cX0_runBody 249 = .ok (.iload_n 3, 1) := by decide +kernel
theorem dX0_runBody_250 : decode cX0_runBody 250 = .ok (.iload 5, 2) := by decide +kernel
theorem dX0_runBody_252 : decode cX0_runBody 252 = .ok (.invokestatic 28, 3) := by decide +kernel
theorem dX0_runBody_255 : decode cX0_runBody 255 = .ok (.iconst 5, 1) := by decide +kernel
theorem dX0_runBody_256 : decode cX0_runBody 256 = .ok (.ixor, 1) := by decide +kernel
theorem dX0_runBody_257 : decode cX0_runBody 257 = .ok (.ireturn, 1) := by decide +kernel
theorem dX0_runBody_258 : decode cX0_runBody 258 = .ok (.aload_n 0, 1) := by decide +kernel
theorem dX0_runBody_259 : decode cX0_runBody 259 = .ok (.iconst 3, 1) := by decide +kernel
theorem dX0_runBody_260 : decode cX0_runBody 260 = .ok (.iconst 0, 1) := by decide +kernel
theorem dX0_runBody_261 : decode cX0_runBody 261 = .ok (.iload_n 3, 1) := by decide +kernel
theorem dX0_runBody_262 : decode cX0_runBody 262 = .ok (.iload 5, 2) := by decide +kernel
theorem dX0_runBody_264 : decode cX0_runBody 264 = .ok (.invokestatic 28, 3) := by decide +kernel
theorem dX0_runBody_267 : decode cX0_runBody 267 = .ok (.iconst 2, 1) := by decide +kernel
theorem dX0_runBody_268 : decode cX0_runBody 268 = .ok (.imul, 1) := by decide +kernel
theorem dX0_runBody_269 : decode cX0_runBody 269 = .ok (.ireturn, 1) := by decide +kernel
theorem dX0_runBody_270 : decode cX0_runBody 270 = .ok (.aload_n 0, 1) := by decide +kernel
theorem dX0_runBody_271 : decode cX0_runBody 271 = .ok (.iconst 3, 1) := by decide +kernel
theorem dX0_runBody_272 : decode cX0_runBody 272 = .ok (.iconst 1, 1) := by decide +kernel
theorem dX0_runBody_273 : decode cX0_runBody 273 = .ok (.iload_n 3, 1) := by decide +kernel
theorem dX0_runBody_274 : decode cX0_runBody 274 = .ok (.aload_n 0, 1) := by decide +kernel
theorem dX0_runBody_275 : decode cX0_runBody 275 = .ok (.getfield 21, 3) := by decide +kernel
theorem dX0_runBody_278 : decode cX0_runBody 278 = .ok (.isub, 1) := by decide +kernel
theorem dX0_runBody_279 : decode cX0_runBody 279 = .ok (.iload 5, 2) := by decide +kernel
theorem dX0_runBody_281 : decode cX0_runBody 281 = .ok (.invokestatic 28, 3) := by decide +kernel
theorem dX0_runBody_284 : decode cX0_runBody 284 = .ok (.ireturn, 1) := by decide +kernel
theorem dX0_runBody_285 : decode cX0_runBody 285 = .ok (.iconst 0, 1) := by decide +kernel
theorem dX0_runBody_286 : decode cX0_runBody 286 = .ok (.ireturn, 1) := by decide +kernel
theorem dX1_init_0 : decode cX1_init 0 = .ok (.aload_n 0, 1) := by decide +kernel
theorem dX1_init_1 : decode cX1_init 1 = .ok (.invokespecial 3, 3) := by decide +kernel
theorem dX1_init_4 : decode cX1_init 4 = .ok (.aload_n 0, 1) := by decide +kernel
theorem dX1_init_5 : decode cX1_init 5 = .ok (.iconst 0, 1) := by decide +kernel
theorem dX1_init_6 : decode cX1_init 6 = .ok (.putfield 9, 3) := by decide +kernel
theorem dX1_init_9 : decode cX1_init 9 = .ok (.aload_n 0, 1) := by decide +kernel
theorem dX1_init_10 : decode cX1_init 10 = .ok (.iconst 0, 1) := by decide +kernel
theorem dX1_init_11 : decode cX1_init 11 = .ok (.putfield 15, 3) := by decide +kernel
theorem dX1_init_14 : decode cX1_init 14 = .ok (.aload_n 0, 1) := by decide +kernel
theorem dX1_init_15 : decode cX1_init 15 = .ok (.iconst 0, 1) := by decide +kernel
theorem dX1_init_16 : decode cX1_init 16 = .ok (.putfield 18, 3) := by decide +kernel
theorem dX1_init_19 : decode cX1_init 19 = .ok (.return_, 1) := by decide +kernel
theorem dX1_withStep_0 : decode cX1_withStep 0 = .ok (.iload_n 0, 1) := by decide +kernel
theorem dX1_withStep_1 : decode cX1_withStep 1 = .ok (.iload_n 2, 1) := by decide +kernel
theorem dX1_withStep_2 : decode cX1_withStep 2 = .ok (.iconst 2, 1) := by decide +kernel
theorem dX1_withStep_3 : decode cX1_withStep 3 = .ok (.iload_n 1, 1) := by decide +kernel
theorem dX1_withStep_4 : decode cX1_withStep 4 = .ok (.imul, 1) := by decide +kernel
theorem dX1_withStep_5 : decode cX1_withStep 5 = .ok (.ishl, 1) := by decide +kernel
theorem dX1_withStep_6 : decode cX1_withStep 6 = .ok (.ior, 1) := by decide +kernel
theorem dX1_withStep_7 : decode cX1_withStep 7 = .ok (.ireturn, 1) := by decide +kernel
theorem dX1_stepAt_0 : decode cX1_stepAt 0 = .ok (.aload_n 0, 1) := by decide +kernel
theorem dX1_stepAt_1 : decode cX1_stepAt 1 = .ok (.getfield 18, 3) := by decide +kernel
theorem dX1_stepAt_4 : decode cX1_stepAt 4 = .ok (.iconst 2, 1) := by decide +kernel
theorem dX1_stepAt_5 : decode cX1_stepAt 5 = .ok (.iload_n 1, 1) := by decide +kernel
theorem dX1_stepAt_6 : decode cX1_stepAt 6 = .ok (.imul, 1) := by decide +kernel
theorem dX1_stepAt_7 : decode cX1_stepAt 7 = .ok (.ishr, 1) := by decide +kernel
theorem dX1_stepAt_8 : decode cX1_stepAt 8 = .ok (.iconst 3, 1) := by decide +kernel
theorem dX1_stepAt_9 : decode cX1_stepAt 9 = .ok (.iand, 1) := by decide +kernel
theorem dX1_stepAt_10 : decode cX1_stepAt 10 = .ok (.ireturn, 1) := by decide +kernel
theorem dX1_quartersOf_0 : decode cX1_quartersOf 0 = .ok (.iload_n 1, 1) := by decide +kernel
theorem dX1_quartersOf_1 : decode cX1_quartersOf 1 = .ok (.iconst 3, 1) := by decide +kernel
theorem dX1_quartersOf_2 : decode cX1_quartersOf 2 = .ok (.if_icmp .ne 5, 3) := by decide +kernel
theorem dX1_quartersOf_5 : decode cX1_quartersOf 5 = .ok (.iconst 0, 1) := by decide +kernel
theorem dX1_quartersOf_6 : decode cX1_quartersOf 6 = .ok (.ireturn, 1) := by decide +kernel
theorem dX1_quartersOf_7 : decode cX1_quartersOf 7 = .ok (.iload_n 1, 1) := by decide +kernel
theorem dX1_quartersOf_8 : decode cX1_quartersOf 8 = .ok (.ifCond .ne 10, 3) := by decide +kernel
theorem dX1_quartersOf_11 : decode cX1_quartersOf 11 = .ok (.aload_n 0, 1) := by decide +kernel
theorem dX1_quartersOf_12 : decode cX1_quartersOf 12 = .ok (.getfield 15, 3) := by decide +kernel
theorem dX1_quartersOf_15 : decode cX1_quartersOf 15 = .ok (.goto 6, 3) := by decide +kernel
theorem dX1_quartersOf_18 : decode cX1_quartersOf 18 = .ok (.iload_n 1, 1) := by decide +kernel
theorem dX1_quartersOf_19 : decode cX1_quartersOf 19 = .ok (.iconst 1, 1) := by decide +kernel
theorem dX1_quartersOf_20 : decode cX1_quartersOf 20 = .ok (.isub, 1) := by decide +kernel
theorem dX1_quartersOf_21 : decode cX1_quartersOf 21 = .ok (.istore_n 2, 1) := by decide +kernel
theorem dX1_quartersOf_22 : decode cX1_quartersOf 22 = .ok (.iload_n 2, 1) := by decide +kernel
theorem dX1_quartersOf_23 : decode cX1_quartersOf 23 = .ok (.ifCond .ne 7, 3) := by decide +kernel
theorem dX1_quartersOf_26 : decode cX1_quartersOf 26 = .ok (.iconst 3, 1) := by decide +kernel
theorem dX1_quartersOf_27 : decode cX1_quartersOf 27 = .ok (.goto 4, 3) := by decide +kernel
theorem dX1_quartersOf_30 : decode cX1_quartersOf 30 = .ok (.iload_n 2, 1) := by decide +kernel
theorem dX1_quartersOf_31 : decode cX1_quartersOf 31 = .ok (.ireturn, 1) := by decide +kernel
theorem dX1_next_0 : decode cX1_next 0 = .ok (.iload_n 1, 1) := by decide +kernel
theorem dX1_next_1 : decode cX1_next 1 = .ok (.iconst 1, 1) := by decide +kernel
theorem dX1_next_2 : decode cX1_next 2 = .ok (.iadd, 1) := by decide +kernel
theorem dX1_next_3 : decode cX1_next 3 = .ok (.aload_n 0, 1) := by decide +kernel
theorem dX1_next_4 : decode cX1_next 4 = .ok (.getfield 9, 3) := by decide +kernel
theorem dX1_next_7 : decode cX1_next 7 = .ok (.if_icmp .ge 9, 3) := by decide +kernel
theorem dX1_next_10 : decode cX1_next 10 = .ok (.iload_n 1, 1) := by decide +kernel
theorem dX1_next_11 : decode cX1_next 11 = .ok (.iconst 1, 1) := by decide +kernel
theorem dX1_next_12 : decode cX1_next 12 = .ok (.iadd, 1) := by decide +kernel
theorem dX1_next_13 : decode cX1_next 13 = .ok (.goto 4, 3) := by decide +kernel
theorem dX1_next_16 : decode cX1_next 16 = .ok (.iconst 0, 1) := by decide +kernel
theorem dX1_next_17 : decode cX1_next 17 = .ok (.ireturn, 1) := by decide +kernel
theorem dX1_becomeAs_0 : decode cX1_becomeAs 0 = .ok (.aload_n 0, 1) := by decide +kernel
theorem dX1_becomeAs_1 : decode cX1_becomeAs 1 = .ok (.aload_n 1, 1) := by decide +kernel
theorem dX1_becomeAs_2 : decode cX1_becomeAs 2 = .ok (.getfield 9, 3) := by decide +kernel
theorem dX1_becomeAs_5 : decode cX1_becomeAs 5 = .ok (.putfield 9, 3) := by decide +kernel
theorem dX1_becomeAs_8 : decode cX1_becomeAs 8 = .ok (.aload_n 0, 1) := by decide +kernel
theorem dX1_becomeAs_9 : decode cX1_becomeAs 9 = .ok (.aload_n 1, 1) := by decide +kernel
theorem dX1_becomeAs_10 : decode cX1_becomeAs 10 = .ok (.getfield 15, 3) := by decide +kernel
theorem dX1_becomeAs_13 : decode cX1_becomeAs 13 = .ok (.putfield 15, 3) := by decide +kernel
theorem dX1_becomeAs_16 : decode cX1_becomeAs 16 = .ok (.aload_n 0, 1) := by decide +kernel
theorem dX1_becomeAs_17 : decode cX1_becomeAs 17 = .ok (.aload_n 1, 1) := by decide +kernel
theorem dX1_becomeAs_18 : decode cX1_becomeAs 18 = .ok (.getfield 18, 3) := by decide +kernel
theorem dX1_becomeAs_21 : decode cX1_becomeAs 21 = .ok (.putfield 18, 3) := by decide +kernel
theorem dX1_becomeAs_24 : decode cX1_becomeAs 24 = .ok (.return_, 1) := by decide +kernel
theorem dX2_init_0 : decode cX2_init 0 = .ok (.aload_n 0, 1) := by decide +kernel
theorem dX2_init_1 : decode cX2_init 1 = .ok (.invokespecial 3, 3) := by decide +kernel
theorem dX2_init_4 : decode cX2_init 4 = .ok (.aload_n 0, 1) := by decide +kernel
theorem dX2_init_5 : decode cX2_init 5 = .ok (.iconst 0, 1) := by decide +kernel
theorem dX2_init_6 : decode cX2_init 6 = .ok (.putfield 9, 3) := by decide +kernel
theorem dX2_init_9 : decode cX2_init 9 = .ok (.aload_n 0, 1) := by decide +kernel
theorem dX2_init_10 : decode cX2_init 10 = .ok (.iconst 0, 1) := by decide +kernel
theorem dX2_init_11 : decode cX2_init 11 = .ok (.putfield 15, 3) := by decide +kernel
theorem dX2_init_14 : decode cX2_init 14 = .ok (.aload_n 0, 1) := by decide +kernel
theorem dX2_init_15 : decode cX2_init 15 = .ok (.iconst 0, 1) := by decide +kernel
theorem dX2_init_16 : decode cX2_init 16 = .ok (.putfield 19, 3) := by decide +kernel
theorem dX2_init_19 : decode cX2_init 19 = .ok (.aload_n 0, 1) := by decide +kernel
theorem dX2_init_20 : decode cX2_init 20 = .ok (.iconst 0, 1) := by decide +kernel
theorem dX2_init_21 : decode cX2_init 21 = .ok (.putfield 22, 3) := by decide +kernel
theorem dX2_init_24 : decode cX2_init 24 = .ok (.aload_n 0, 1) := by decide +kernel
theorem dX2_init_25 : decode cX2_init 25 = .ok (.sipush 160, 3) := by decide +kernel
theorem dX2_init_28 : decode cX2_init 28 = .ok (.newarray .int, 2) := by decide +kernel
theorem dX2_init_30 : decode cX2_init 30 = .ok (.putfield 25, 3) := by decide +kernel
theorem dX2_init_33 : decode cX2_init 33 = .ok (.aload_n 0, 1) := by decide +kernel
theorem dX2_init_34 : decode cX2_init 34 = .ok (.new 29, 3) := by decide +kernel
theorem dX2_init_37 : decode cX2_init 37 = .ok (.dup, 1) := by decide +kernel
theorem dX2_init_38 : decode cX2_init 38 = .ok (.invokespecial 31, 3) := by decide +kernel
theorem dX2_init_41 : decode cX2_init 41 = .ok (.putfield 32, 3) := by decide +kernel
theorem dX2_init_44 : decode cX2_init 44 = .ok (.return_, 1) := by decide +kernel
theorem dX2_begin_0 : decode cX2_begin 0 = .ok (.aload_n 0, 1) := by decide +kernel
theorem dX2_begin_1 : decode cX2_begin 1 = .ok (.getfield 32, 3) := by decide +kernel
theorem dX2_begin_4 : decode cX2_begin 4 = .ok (.aload_n 2, 1) := by decide +kernel
theorem dX2_begin_5 : decode cX2_begin 5 = .ok (.invokevirtual 36, 3) := by decide +kernel
theorem dX2_begin_8 : decode cX2_begin 8 = .ok (.aload_n 0, 1) := by decide +kernel
theorem dX2_begin_9 : decode cX2_begin 9 = .ok (.iconst 0, 1) := by decide +kernel
theorem dX2_begin_10 : decode cX2_begin 10 = .ok (.putfield 9, 3) := by decide +kernel
theorem dX2_begin_13 : decode cX2_begin 13 = .ok (.aload_n 0, 1) := by decide +kernel
theorem dX2_begin_14 : decode cX2_begin 14 = .ok (.iconst 0, 1) := by decide +kernel
theorem dX2_begin_15 : decode cX2_begin 15 = .ok (.putfield 15, 3) := by decide +kernel
theorem dX2_begin_18 : decode cX2_begin 18 = .ok (.aload_n 0, 1) := by decide +kernel
theorem dX2_begin_19 : decode cX2_begin 19 = .ok (.aload_n 1, 1) := by decide +kernel
theorem dX2_begin_20 : decode cX2_begin 20 = .ok (.getfield 40, 3) := by decide +kernel
theorem dX2_begin_23 : decode cX2_begin 23 = .ok (.putfield 19, 3) := by decide +kernel
theorem dX2_begin_26 : decode cX2_begin 26 = .ok (.iconst 0, 1) := by decide +kernel
theorem dX2_begin_27 : decode cX2_begin 27 = .ok (.istore_n 3, 1) := by decide +kernel
theorem dX2_begin_28 : decode cX2_begin 28 = .ok (.iload_n 3, 1) := by decide +kernel
theorem dX2_begin_29 : decode cX2_begin 29 = .ok (.aload_n 0, 1) := by decide +kernel
theorem dX2_begin_30 : decode cX2_begin 30 = .ok (.getfield 19, 3) := by decide +kernel
theorem dX2_begin_33 : decode cX2_begin 33 = .ok (.if_icmp .ge 29, 3) := by decide +kernel
theorem dX2_begin_36 : decode cX2_begin 36 = .ok (.iload_n 3, 1) := by decide +kernel
theorem dX2_begin_37 : decode cX2_begin 37 = .ok (.aload_n 0, 1) := by decide +kernel
theorem dX2_begin_38 : decode cX2_begin 38 = .ok (.getfield 25, 3) := by decide +kernel
theorem dX2_begin_41 : decode cX2_begin 41 = .ok (.arraylength, 1) := by decide +kernel
theorem dX2_begin_42 : decode cX2_begin 42 = .ok (.if_icmp .ge 20, 3) := by decide +kernel
theorem dX2_begin_45 : decode cX2_begin 45 = .ok (.aload_n 0, 1) := by decide +kernel
theorem dX2_begin_46 : decode cX2_begin 46 = .ok (.getfield 25, 3) := by decide +kernel
theorem dX2_begin_49 : decode cX2_begin 49 = .ok (.iload_n 3, 1) := by decide +kernel
theorem dX2_begin_50 : decode cX2_begin 50 = .ok (.aload_n 1, 1) := by decide +kernel
theorem dX2_begin_51 : decode cX2_begin 51 = .ok (.iload_n 3, 1) := by decide +kernel
theorem dX2_begin_52 : decode cX2_begin 52 = .ok (.invokevirtual 43, 3) := by decide +kernel
theorem dX2_begin_55 : decode cX2_begin 55 = .ok (.iastore, 1) := by decide +kernel
theorem dX2_begin_56 : decode cX2_begin 56 = .ok (.iinc 3 1, 3) := by decide +kernel
theorem dX2_begin_59 : decode cX2_begin 59 = .ok (.goto (-31), 3) := by decide +kernel
theorem dX2_begin_62 : decode cX2_begin 62 = .ok (.return_, 1) := by decide +kernel
theorem dX2_readItem_0 : decode cX2_readItem 0 = .ok (.aload_n 0, 1) := by decide +kernel
theorem dX2_readItem_1 : decode cX2_readItem 1 = .ok (.getfield 9, 3) := by decide +kernel
theorem dX2_readItem_4 : decode cX2_readItem 4 = .ok (.istore_n 1, 1) := by decide +kernel
theorem dX2_readItem_5 : decode cX2_readItem 5 = .ok (.aload_n 0, 1) := by decide +kernel
theorem dX2_readItem_6 : decode cX2_readItem 6 = .ok (.invokevirtual 47, 3) := by decide +kernel
theorem dX2_readItem_9 : decode cX2_readItem 9 = .ok (.istore_n 2, 1) := by decide +kernel
theorem dX2_readItem_10 : decode cX2_readItem 10 = .ok (.aload_n 0, 1) := by decide +kernel
theorem dX2_readItem_11 : decode cX2_readItem 11 = .ok (.iload_n 2, 1) := by decide +kernel
theorem dX2_readItem_12 : decode cX2_readItem 12 = .ok (.invokevirtual 51, 3) := by decide +kernel
theorem dX2_readItem_15 : decode cX2_readItem 15 = .ok (.ifCond .eq 10, 3) := by decide +kernel
theorem dX2_readItem_18 : decode cX2_readItem 18 = .ok (.aload_n 0, 1) := by decide +kernel
theorem dX2_readItem_19 : decode cX2_readItem 19 = .ok (.iload_n 1, 1) := by decide +kernel
theorem dX2_readItem_20 : decode cX2_readItem 20 = .ok (.putfield 9, 3) := by decide +kernel
theorem dX2_readItem_23 : decode cX2_readItem 23 = .ok (.iconst 0, 1) := by decide +kernel
theorem dX2_readItem_24 : decode cX2_readItem 24 = .ok (.ireturn, 1) := by decide +kernel
theorem dX2_readItem_25 : decode cX2_readItem 25 = .ok (.iconst 0, 1) := by decide +kernel
theorem dX2_readItem_26 : decode cX2_readItem 26 = .ok (.istore_n 3, 1) := by decide +kernel
theorem dX2_readItem_27 : decode cX2_readItem 27 = .ok (.iload_n 2, 1) := by decide +kernel
theorem dX2_readItem_28 : decode cX2_readItem 28 = .ok (.tableswitch 76 0 4 #[36, 44, 52, 60, 68], 36) := by decide +kernel
theorem dX2_readItem_64 : decode cX2_readItem 64 = .ok (.aload_n 0, 1) := by decide +kernel
theorem dX2_readItem_65 : decode cX2_readItem 65 = .ok (.invokevirtual 55, 3) := by decide +kernel
theorem dX2_readItem_68 : decode cX2_readItem 68 = .ok (.istore_n 3, 1) := by decide +kernel
theorem dX2_readItem_69 : decode cX2_readItem 69 = .ok (.goto 35, 3) := by decide +kernel
theorem dX2_readItem_72 : decode cX2_readItem 72 = .ok (.aload_n 0, 1) := by decide +kernel
theorem dX2_readItem_73 : decode cX2_readItem 73 = .ok (.invokevirtual 59, 3) := by decide +kernel
theorem dX2_readItem_76 : decode cX2_readItem 76 = .ok (.istore_n 3, 1) := by decide +kernel
theorem dX2_readItem_77 : decode cX2_readItem 77 = .ok (.goto 27, 3) := by decide +kernel
theorem dX2_readItem_80 : decode cX2_readItem 80 = .ok (.aload_n 0, 1) := by decide +kernel
theorem dX2_readItem_81 : decode cX2_readItem 81 = .ok (.invokevirtual 62, 3) := by decide +kernel
theorem dX2_readItem_84 : decode cX2_readItem 84 = .ok (.istore_n 3, 1) := by decide +kernel
theorem dX2_readItem_85 : decode cX2_readItem 85 = .ok (.goto 19, 3) := by decide +kernel
theorem dX2_readItem_88 : decode cX2_readItem 88 = .ok (.aload_n 0, 1) := by decide +kernel
theorem dX2_readItem_89 : decode cX2_readItem 89 = .ok (.invokevirtual 65, 3) := by decide +kernel
theorem dX2_readItem_92 : decode cX2_readItem 92 = .ok (.istore_n 3, 1) := by decide +kernel
theorem dX2_readItem_93 : decode cX2_readItem 93 = .ok (.goto 11, 3) := by decide +kernel
theorem dX2_readItem_96 : decode cX2_readItem 96 = .ok (.aload_n 0, 1) := by decide +kernel
theorem dX2_readItem_97 : decode cX2_readItem 97 = .ok (.invokevirtual 68, 3) := by decide +kernel
theorem dX2_readItem_100 : decode cX2_readItem 100 = .ok (.istore_n 3, 1) := by decide +kernel
theorem dX2_readItem_101 : decode cX2_readItem 101 = .ok (.goto 3, 3) := by decide +kernel
theorem dX2_readItem_104 : decode cX2_readItem 104 = .ok (.aload_n 0, 1) := by decide +kernel
theorem dX2_readItem_105 : decode cX2_readItem 105 = .ok (.iload_n 3, 1) := by decide +kernel
theorem dX2_readItem_106 : decode cX2_readItem 106 = .ok (.ifCond .eq 18, 3) := by decide +kernel
theorem dX2_readItem_109 : decode cX2_readItem 109 = .ok (.aload_n 0, 1) := by decide +kernel
theorem dX2_readItem_110 : decode cX2_readItem 110 = .ok (.getfield 9, 3) := by decide +kernel
theorem dX2_readItem_113 : decode cX2_readItem 113 = .ok (.aload_n 0, 1) := by decide +kernel
theorem dX2_readItem_114 : decode cX2_readItem 114 = .ok (.getfield 19, 3) := by decide +kernel
theorem dX2_readItem_117 : decode cX2_readItem 117 = .ok (.if_icmp .lt 7, 3) := by decide +kernel
theorem dX2_readItem_120 : decode cX2_readItem 120 = .ok (.iconst 1, 1) := by decide +kernel
theorem dX2_readItem_121 : decode cX2_readItem 121 = .ok (.goto 4, 3) := by decide +kernel
theorem dX2_readItem_124 : decode cX2_readItem 124 = .ok (.iconst 0, 1) := by decide +kernel
theorem dX2_readItem_125 : decode cX2_readItem 125 = .ok (.putfield 15, 3) := by decide +kernel
theorem dX2_readItem_128 : decode cX2_readItem 128 = .ok (.iload_n 3, 1) := by decide +kernel
theorem dX2_readItem_129 : decode cX2_readItem 129 = .ok (.ifCond .eq 16, 3) := by decide +kernel
theorem dX2_readItem_132 : decode cX2_readItem 132 = .ok (.aload_n 0, 1) := by decide +kernel
theorem dX2_readItem_133 : decode cX2_readItem 133 = .ok (.bipush 59, 2) := by decide +kernel
theorem dX2_readItem_135 : decode cX2_readItem 135 = .ok (.invokevirtual 71, 3) := by decide +kernel
theorem dX2_readItem_138 : decode cX2_readItem 138 = .ok (.ifCond .eq 7, 3) := by decide +kernel
theorem dX2_readItem_141 : decode cX2_readItem 141 = .ok (.iconst 1, 1) := by decide +kernel
theorem dX2_readItem_142 : decode cX2_readItem 142 = .ok (.goto 4, 3) := by decide +kernel
theorem dX2_readItem_145 : decode cX2_readItem 145 = .ok (.iconst 0, 1) := by decide +kernel
theorem dX2_readItem_146 : decode cX2_readItem 146 = .ok (.ireturn, 1) := by decide +kernel
theorem dX2_hasNoRoomFor_0 : decode cX2_hasNoRoomFor 0 = .ok (.iload_n 1, 1) := by decide +kernel
theorem dX2_hasNoRoomFor_1 : decode cX2_hasNoRoomFor 1 = .ok (.ifCond .ne 13, 3) := by decide +kernel
theorem dX2_hasNoRoomFor_4 : decode cX2_hasNoRoomFor 4 = .ok (.aload_n 0, 1) := by decide +kernel
theorem dX2_hasNoRoomFor_5 : decode cX2_hasNoRoomFor 5 = .ok (.getfield 32, 3) := by decide +kernel
theorem dX2_hasNoRoomFor_8 : decode cX2_hasNoRoomFor 8 = .ok (.invokevirtual 75, 3) := by decide +kernel
theorem dX2_hasNoRoomFor_11 : decode cX2_hasNoRoomFor 11 = .ok (.ifCond .eq 18, 3) := by decide +kernel
theorem dX2_hasNoRoomFor_14 : decode cX2_hasNoRoomFor 14 = .ok (.iload_n 1, 1) := by decide +kernel
theorem dX2_hasNoRoomFor_15 : decode cX2_hasNoRoomFor 15 = .ok (.iconst 3, 1) := by decide +kernel
theorem dX2_hasNoRoomFor_16 : decode cX2_hasNoRoomFor 16 = .ok (.if_icmp .ne 17, 3) := by decide +kernel
theorem dX2_hasNoRoomFor_19 : decode cX2_hasNoRoomFor 19 = .ok (.aload_n 0, 1) := by decide +kernel
theorem dX2_hasNoRoomFor_20 : decode cX2_hasNoRoomFor 20 = .ok (.getfield 32, 3) := by decide +kernel
theorem dX2_hasNoRoomFor_23 : decode cX2_hasNoRoomFor 23 = .ok (.invokevirtual 78, 3) := by decide +kernel
theorem dX2_hasNoRoomFor_26 : decode cX2_hasNoRoomFor 26 = .ok (.ifCond .ne 7, 3) := by decide +kernel
theorem dX2_hasNoRoomFor_29 : decode cX2_hasNoRoomFor 29 = .ok (.iconst 1, 1) := by decide +kernel
theorem dX2_hasNoRoomFor_30 : decode cX2_hasNoRoomFor 30 = .ok (.goto 4, 3) := by decide +kernel
theorem dX2_hasNoRoomFor_33 : decode cX2_hasNoRoomFor 33 = .ok (.iconst 0, 1) := by decide +kernel
theorem dX2_hasNoRoomFor_34 : decode cX2_hasNoRoomFor 34 = .ok (.ireturn, 1) := by decide +kernel
theorem dX2_wordBy_0 : decode cX2_wordBy 0 = .ok (.iload_n 0, 1) := by decide +kernel
theorem dX2_wordBy_1 : decode cX2_wordBy 1 = .ok (.tableswitch 43 0 3 #[31, 34, 37, 40], 31) := by decide +kernel
theorem dX2_wordBy_32 : decode cX2_wordBy 32 = .ok (.ldc 81, 2) := by decide +kernel
theorem dX2_wordBy_34 : decode cX2_wordBy 34 = .ok (.areturn, 1) := by decide +kernel
theorem dX2_wordBy_35 : decode cX2_wordBy 35 = .ok (.ldc 83, 2) := by decide +kernel
theorem dX2_wordBy_37 : decode cX2_wordBy 37 = .ok (.areturn, 1) := by decide +kernel
theorem dX2_wordBy_38 : decode cX2_wordBy 38 = .ok (.ldc 85, 2) := by decide +kernel
theorem dX2_wordBy_40 : decode cX2_wordBy 40 = .ok (.areturn, 1) := by decide +kernel
theorem dX2_wordBy_41 : decode cX2_wordBy 41 = .ok (.ldc 87, 2) := by decide +kernel
theorem dX2_wordBy_43 : decode cX2_wordBy 43 = .ok (.areturn, 1) := by decide +kernel
theorem dX2_wordBy_44 : decode cX2_wordBy 44 = .ok (.ldc 89, 2) := by decide +kernel
theorem dX2_wordBy_46 : decode cX2_wordBy 46 = .ok (.areturn, 1) := by decide +kernel
theorem dX2_readWord_0 : decode cX2_readWord 0 = .ok (.iconst 0, 1) := by decide +kernel
theorem dX2_readWord_1 : decode cX2_readWord 1 = .ok (.istore_n 1, 1) := by decide +kernel
theorem dX2_readWord_2 : decode cX2_readWord 2 = .ok (.iconst 0, 1) := by decide +kernel
theorem dX2_readWord_3 : decode cX2_readWord 3 = .ok (.istore_n 2, 1) := by decide +kernel
theorem dX2_readWord_4 : decode cX2_readWord 4 = .ok (.iload_n 2, 1) := by decide +kernel
theorem dX2_readWord_5 : decode cX2_readWord 5 = .ok (.iconst 5, 1) := by decide +kernel
theorem dX2_readWord_6 : decode cX2_readWord 6 = .ok (.if_icmp .ge 50, 3) := by decide +kernel
theorem dX2_readWord_9 : decode cX2_readWord 9 = .ok (.iload_n 2, 1) := by decide +kernel
theorem dX2_readWord_10 : decode cX2_readWord 10 = .ok (.invokestatic 91, 3) := by decide +kernel
theorem dX2_readWord_13 : decode cX2_readWord 13 = .ok (.astore_n 3, 1) := by decide +kernel
theorem dX2_readWord_14 : decode cX2_readWord 14 = .ok (.aload_n 0, 1) := by decide +kernel
theorem dX2_readWord_15 : decode cX2_readWord 15 = .ok (.aload_n 3, 1) := by decide +kernel
theorem dX2_readWord_16 : decode cX2_readWord 16 = .ok (.invokevirtual 95, 3) := by decide +kernel
theorem dX2_readWord_19 : decode cX2_readWord 19 = .ok (.istore 4, 2) := by decide +kernel
theorem dX2_readWord_21 : decode cX2_readWord 21 = .ok (.iload 4, 2) := by decide +kernel
theorem dX2_readWord_23 : decode cX2_readWord 23 = .ok (.aload_n 3, 1) := by decide +kernel
theorem dX2_readWord_24 : decode cX2_readWord 24 = .ok (.invokevirtual 99, 3) := by decide +kernel
theorem dX2_readWord_27 : decode cX2_readWord 27 = .ok (.if_icmp .ne 16, 3) := by decide +kernel
theorem dX2_readWord_30 : decode cX2_readWord 30 = .ok (.aload_n 0, 1) := by decide +kernel
theorem dX2_readWord_31 : decode cX2_readWord 31 = .ok (.dup, 1) := by decide +kernel
theorem dX2_readWord_32 : decode cX2_readWord 32 = .ok (.getfield 9, 3) := by decide +kernel
theorem dX2_readWord_35 : decode cX2_readWord 35 = .ok (.iload 4, 2) := by decide +kernel
theorem dX2_readWord_37 : decode cX2_readWord 37 = .ok (.iadd, 1) := by decide +kernel
theorem dX2_readWord_38 : decode cX2_readWord 38 = .ok (.putfield 9, 3) := by decide +kernel
theorem dX2_readWord_41 : decode cX2_readWord 41 = .ok (.iload_n 2, 1) := by decide +kernel
theorem dX2_readWord_42 : decode cX2_readWord 42 = .ok (.ireturn, 1) := by decide +kernel
theorem dX2_readWord_43 : decode cX2_readWord 43 = .ok (.iload_n 1, 1) := by decide +kernel
theorem dX2_readWord_44 : decode cX2_readWord 44 = .ok (.iload 4, 2) := by decide +kernel
theorem dX2_readWord_46 : decode cX2_readWord 46 = .ok (.invokestatic 104, 3) := by decide +kernel
theorem dX2_readWord_49 : decode cX2_readWord 49 = .ok (.istore_n 1, 1) := by decide +kernel
theorem dX2_readWord_50 : decode cX2_readWord 50 = .ok (.iinc 2 1, 3) := by decide +kernel
theorem dX2_readWord_53 : decode cX2_readWord 53 = .ok (.goto (-49), 3) := by decide +kernel
theorem dX2_readWord_56 : decode cX2_readWord 56 = .ok (.aload_n 0, 1) := by decide +kernel
theorem dX2_readWord_57 : decode cX2_readWord 57 = .ok (.dup, 1) := by decide +kernel
theorem dX2_readWord_58 : decode cX2_readWord 58 = .ok (.getfield 9, 3) := by decide +kernel
theorem dX2_readWord_61 : decode cX2_readWord 61 = .ok (.iload_n 1, 1) := by decide +kernel
theorem dX2_readWord_62 : decode cX2_readWord 62 = .ok (.iadd, 1) := by decide +kernel
theorem dX2_readWord_63 : decode cX2_readWord 63 = .ok (.putfield 9, 3) := by decide +kernel
theorem dX2_readWord_66 : decode cX2_readWord 66 = .ok (.iconst (-1), 1) := by decide +kernel
theorem dX2_readWord_67 : decode cX2_readWord 67 = .ok (.ireturn, 1) := by decide +kernel
theorem dX2_countAlike_0 : decode cX2_countAlike 0 = .ok (.iconst 0, 1) := by decide +kernel
theorem dX2_countAlike_1 : decode cX2_countAlike 1 = .ok (.istore_n 2, 1) := by decide +kernel
theorem dX2_countAlike_2 : decode cX2_countAlike 2 = .ok (.iload_n 2, 1) := by decide +kernel
theorem dX2_countAlike_3 : decode cX2_countAlike 3 = .ok (.aload_n 1, 1) := by decide +kernel
theorem dX2_countAlike_4 : decode cX2_countAlike 4 = .ok (.invokevirtual 99, 3) := by decide +kernel
theorem dX2_countAlike_7 : decode cX2_countAlike 7 = .ok (.if_icmp .ge 27, 3) := by decide +kernel
theorem dX2_countAlike_10 : decode cX2_countAlike 10 = .ok (.aload_n 0, 1) := by decide +kernel
theorem dX2_countAlike_11 : decode cX2_countAlike 11 = .ok (.aload_n 0, 1) := by decide +kernel
theorem dX2_countAlike_12 : decode cX2_countAlike 12 = .ok (.getfield 9, 3) := by decide +kernel
theorem dX2_countAlike_15 : decode cX2_countAlike 15 = .ok (.iload_n 2, 1) := by decide +kernel
theorem dX2_countAlike_16 : decode cX2_countAlike 16 = .ok (.iadd, 1) := by decide +kernel
theorem dX2_countAlike_17 : decode cX2_countAlike 17 = .ok (.invokevirtual 110, 3) := by decide +kernel
theorem dX2_countAlike_20 : decode cX2_countAlike 20 = .ok (.aload_n 1, 1) := by decide +kernel
theorem dX2_countAlike_21 : decode cX2_countAlike 21 = .ok (.iload_n 2, 1) := by decide +kernel
theorem dX2_countAlike_22 : decode cX2_countAlike 22 = .ok (.invokevirtual 113, 3) := by decide +kernel
theorem dX2_countAlike_25 : decode cX2_countAlike 25 = .ok (.if_icmp .ne 9, 3) := by decide +kernel
theorem dX2_countAlike_28 : decode cX2_countAlike 28 = .ok (.iinc 2 1, 3) := by decide +kernel
theorem dX2_countAlike_31 : decode cX2_countAlike 31 = .ok (.goto (-29), 3) := by decide +kernel
theorem dX2_countAlike_34 : decode cX2_countAlike 34 = .ok (.iload_n 2, 1) := by decide +kernel
theorem dX2_countAlike_35 : decode cX2_countAlike 35 = .ok (.ireturn, 1) := by decide +kernel
theorem dX2_letterAt_0 : decode cX2_letterAt 0 = .ok (.iload_n 1, 1) := by decide +kernel
theorem dX2_letterAt_1 : decode cX2_letterAt 1 = .ok (.ifCond .lt 29, 3) := by decide +kernel
theorem dX2_letterAt_4 : decode cX2_letterAt 4 = .ok (.iload_n 1, 1) := by decide +kernel
theorem dX2_letterAt_5 : decode cX2_letterAt 5 = .ok (.aload_n 0, 1) := by decide +kernel
theorem dX2_letterAt_6 : decode cX2_letterAt 6 = .ok (.getfield 19, 3) := by decide +kernel
theorem dX2_letterAt_9 : decode cX2_letterAt 9 = .ok (.if_icmp .ge 21, 3) := by decide +kernel
theorem dX2_letterAt_12 : decode cX2_letterAt 12 = .ok (.iload_n 1, 1) := by decide +kernel
theorem dX2_letterAt_13 : decode cX2_letterAt 13 = .ok (.aload_n 0, 1) := by decide +kernel
theorem dX2_letterAt_14 : decode cX2_letterAt 14 = .ok (.getfield 25, 3) := by decide +kernel
theorem dX2_letterAt_17 : decode cX2_letterAt 17 = .ok (.arraylength, 1) := by decide +kernel
theorem dX2_letterAt_18 : decode cX2_letterAt 18 = .ok (.if_icmp .ge 12, 3) := by decide +kernel
theorem dX2_letterAt_21 : decode cX2_letterAt 21 = .ok (.aload_n 0, 1) := by decide +kernel
theorem dX2_letterAt_22 : decode cX2_letterAt 22 = .ok (.getfield 25, 3) := by decide +kernel
theorem dX2_letterAt_25 : decode cX2_letterAt 25 = .ok (.iload_n 1, 1) := by decide +kernel
theorem dX2_letterAt_26 : decode cX2_letterAt 26 = .ok (.iaload, 1) := by decide +kernel
theorem dX2_letterAt_27 : decode cX2_letterAt 27 = .ok (.goto 4, 3) := by decide +kernel
theorem dX2_letterAt_30 : decode cX2_letterAt 30 = .ok (.iconst (-1), 1) := by decide +kernel
theorem dX2_letterAt_31 : decode cX2_letterAt 31 = .ok (.ireturn, 1) := by decide +kernel
theorem dX2_readSign_0 : decode cX2_readSign 0 = .ok (.aload_n 0, 1) := by decide +kernel
theorem dX2_readSign_1 : decode cX2_readSign 1 = .ok (.aload_n 0, 1) := by decide +kernel
theorem dX2_readSign_2 : decode cX2_readSign 2 = .ok (.getfield 9, 3) := by decide +kernel
theorem dX2_readSign_5 : decode cX2_readSign 5 = .ok (.invokevirtual 110, 3) := by decide +kernel
theorem dX2_readSign_8 : decode cX2_readSign 8 = .ok (.iload_n 1, 1) := by decide +kernel
theorem dX2_readSign_9 : decode cX2_readSign 9 = .ok (.if_icmp .eq 5, 3) := by decide +kernel
theorem dX2_readSign_12 : decode cX2_readSign 12 = .ok (.iconst 0, 1) := by decide +kernel
theorem dX2_readSign_13 : decode cX2_readSign 13 = .ok (.ireturn, 1) := by decide +kernel
theorem dX2_readSign_14 : decode cX2_readSign 14 = .ok (.aload_n 0, 1) := by decide +kernel
theorem dX2_readSign_15 : decode cX2_readSign 15 = .ok (.dup, 1) := by decide +kernel
theorem dX2_readSign_16 : decode cX2_readSign 16 = .ok (.getfield 9, 3) := by decide +kernel
theorem dX2_readSign_19 : decode cX2_readSign 19 = .ok (.iconst 1, 1) := by decide +kernel
theorem dX2_readSign_20 : decode cX2_readSign 20 = .ok (.iadd, 1) := by decide +kernel
theorem dX2_readSign_21 : decode cX2_readSign 21 = .ok (.putfield 9, 3) := by decide +kernel
theorem dX2_readSign_24 : decode cX2_readSign 24 = .ok (.iconst 1, 1) := by decide +kernel
theorem dX2_readSign_25 : decode cX2_readSign 25 = .ok (.ireturn, 1) := by decide +kernel
theorem dX2_digitHere_0 : decode cX2_digitHere 0 = .ok (.aload_n 0, 1) := by decide +kernel
theorem dX2_digitHere_1 : decode cX2_digitHere 1 = .ok (.aload_n 0, 1) := by decide +kernel
theorem dX2_digitHere_2 : decode cX2_digitHere 2 = .ok (.getfield 9, 3) := by decide +kernel
theorem dX2_digitHere_5 : decode cX2_digitHere 5 = .ok (.invokevirtual 110, 3) := by decide +kernel
theorem dX2_digitHere_8 : decode cX2_digitHere 8 = .ok (.istore_n 1, 1) := by decide +kernel
theorem dX2_digitHere_9 : decode cX2_digitHere 9 = .ok (.iload_n 1, 1) := by decide +kernel
theorem dX2_digitHere_10 : decode cX2_digitHere 10 = .ok (.bipush 48, 2) := by decide +kernel
theorem dX2_digitHere_12 : decode cX2_digitHere 12 = .ok (.if_icmp .lt 16, 3) := by decide +kernel
theorem dX2_digitHere_15 : decode cX2_digitHere 15 = .ok (.iload_n 1, 1) := by decide +kernel
theorem dX2_digitHere_16 : decode cX2_digitHere 16 = .ok (.bipush 57, 2) := by decide +kernel
theorem dX2_digitHere_18 : decode cX2_digitHere 18 = .ok (.if_icmp .gt 10, 3) := by decide +kernel
theorem dX2_digitHere_21 : decode cX2_digitHere 21 = .ok (.iload_n 1, 1) := by decide +kernel
theorem dX2_digitHere_22 : decode cX2_digitHere 22 = .ok (.bipush 48, 2) := by decide +kernel
theorem dX2_digitHere_24 : decode cX2_digitHere 24 = .ok (.isub, 1) := by decide +kernel
theorem dX2_digitHere_25 : decode cX2_digitHere 25 = .ok (.goto 4, 3) := by decide +kernel
theorem dX2_digitHere_28 : decode cX2_digitHere 28 = .ok (.iconst (-1), 1) := by decide +kernel
theorem dX2_digitHere_29 : decode cX2_digitHere 29 = .ok (.ireturn, 1) := by decide +kernel
theorem dX2_readNumber_0 : decode cX2_readNumber 0 = .ok (.aload_n 0, 1) := by decide +kernel
theorem dX2_readNumber_1 : decode cX2_readNumber 1 = .ok (.bipush 32, 2) := by decide +kernel
theorem dX2_readNumber_3 : decode cX2_readNumber 3 = .ok (.invokevirtual 71, 3) := by decide +kernel
theorem dX2_readNumber_6 : decode cX2_readNumber 6 = .ok (.ifCond .ne 5, 3) := by decide +kernel
theorem dX2_readNumber_9 : decode cX2_readNumber 9 = .ok (.iconst (-1), 1) := by decide +kernel
theorem dX2_readNumber_10 : decode cX2_readNumber 10 = .ok (.ireturn, 1) := by decide +kernel
theorem dX2_readNumber_11 : decode cX2_readNumber 11 = .ok (.aload_n 0, 1) := by decide +kernel
theorem dX2_readNumber_12 : decode cX2_readNumber 12 = .ok (.aload_n 0, 1) := by decide +kernel
theorem dX2_readNumber_13 : decode cX2_readNumber 13 = .ok (.getfield 9, 3) := by decide +kernel
theorem dX2_readNumber_16 : decode cX2_readNumber 16 = .ok (.putfield 22, 3) := by decide +kernel
theorem dX2_readNumber_19 : decode cX2_readNumber 19 = .ok (.aload_n 0, 1) := by decide +kernel
theorem dX2_readNumber_20 : decode cX2_readNumber 20 = .ok (.invokevirtual 117, 3) := by decide +kernel
theorem dX2_readNumber_23 : decode cX2_readNumber 23 = .ok (.istore_n 3, 1) := by decide +kernel
theorem dX2_readNumber_24 : decode cX2_readNumber 24 = .ok (.iload_n 3, 1) := by decide +kernel
theorem dX2_readNumber_25 : decode cX2_readNumber 25 = .ok (.iconst (-1), 1) := by decide +kernel
theorem dX2_readNumber_26 : decode cX2_readNumber 26 = .ok (.if_icmp .ne 5, 3) := by decide +kernel
theorem dX2_readNumber_29 : decode cX2_readNumber 29 = .ok (.iconst (-1), 1) := by decide +kernel
theorem dX2_readNumber_30 : decode cX2_readNumber 30 = .ok (.ireturn, 1) := by decide +kernel
theorem dX2_readNumber_31 : decode cX2_readNumber 31 = .ok (.aload_n 0, 1) := by decide +kernel
theorem dX2_readNumber_32 : decode cX2_readNumber 32 = .ok (.dup, 1) := by decide +kernel
theorem dX2_readNumber_33 : decode cX2_readNumber 33 = .ok (.getfield 9, 3) := by decide +kernel
theorem dX2_readNumber_36 : decode cX2_readNumber 36 = .ok (.iconst 1, 1) := by decide +kernel
theorem dX2_readNumber_37 : decode cX2_readNumber 37 = .ok (.iadd, 1) := by decide +kernel
theorem dX2_readNumber_38 : decode cX2_readNumber 38 = .ok (.putfield 9, 3) := by decide +kernel
theorem dX2_readNumber_41 : decode cX2_readNumber 41 = .ok (.aload_n 0, 1) := by decide +kernel
theorem dX2_readNumber_42 : decode cX2_readNumber 42 = .ok (.invokevirtual 117, 3) := by decide +kernel
theorem dX2_readNumber_45 : decode cX2_readNumber 45 = .ok (.istore 4, 2) := by decide +kernel
theorem dX2_readNumber_47 : decode cX2_readNumber 47 = .ok (.iload 4, 2) := by decide +kernel
theorem dX2_readNumber_49 : decode cX2_readNumber 49 = .ok (.iconst (-1), 1) := by decide +kernel
theorem dX2_readNumber_50 : decode cX2_readNumber 50 = .ok (.if_icmp .eq 21, 3) := by decide +kernel
theorem dX2_readNumber_53 : decode cX2_readNumber 53 = .ok (.iload_n 3, 1) := by decide +kernel
theorem dX2_readNumber_54 : decode cX2_readNumber 54 = .ok (.bipush 10, 2) := by decide +kernel
theorem dX2_readNumber_56 : decode cX2_readNumber 56 = .ok (.imul, 1) := by decide +kernel
theorem dX2_readNumber_57 : decode cX2_readNumber 57 = .ok (.iload 4, 2) := by decide +kernel
theorem dX2_readNumber_59 : decode cX2_readNumber 59 = .ok (.iadd, 1) := by decide +kernel
theorem dX2_readNumber_60 : decode cX2_readNumber 60 = .ok (.istore_n 3, 1) := by decide +kernel
theorem dX2_readNumber_61 : decode cX2_readNumber 61 = .ok (.aload_n 0, 1) := by decide +kernel
theorem dX2_readNumber_62 : decode cX2_readNumber 62 = .ok (.dup, 1) := by decide +kernel
theorem dX2_readNumber_63 : decode cX2_readNumber 63 = .ok (.getfield 9, 3) := by decide +kernel
theorem dX2_readNumber_66 : decode cX2_readNumber 66 = .ok (.iconst 1, 1) := by decide +kernel
theorem dX2_readNumber_67 : decode cX2_readNumber 67 = .ok (.iadd, 1) := by decide +kernel
theorem dX2_readNumber_68 : decode cX2_readNumber 68 = .ok (.putfield 9, 3) := by decide +kernel
theorem dX2_readNumber_71 : decode cX2_readNumber 71 = .ok (.iload_n 3, 1) := by decide +kernel
theorem dX2_readNumber_72 : decode cX2_readNumber 72 = .ok (.iload_n 1, 1) := by decide +kernel
theorem dX2_readNumber_73 : decode cX2_readNumber 73 = .ok (.if_icmp .lt 12, 3) := by decide +kernel
theorem dX2_readNumber_76 : decode cX2_readNumber 76 = .ok (.iload_n 3, 1) := by decide +kernel
theorem dX2_readNumber_77 : decode cX2_readNumber 77 = .ok (.iload_n 2, 1) := by decide +kernel
theorem dX2_readNumber_78 : decode cX2_readNumber 78 = .ok (.if_icmp .gt 7, 3) := by decide +kernel
theorem dX2_readNumber_81 : decode cX2_readNumber 81 = .ok (.iload_n 3, 1) := by decide +kernel
theorem dX2_readNumber_82 : decode cX2_readNumber 82 = .ok (.goto 7, 3) := by decide +kernel
theorem dX2_readNumber_85 : decode cX2_readNumber 85 = .ok (.aload_n 0, 1) := by decide +kernel
theorem dX2_readNumber_86 : decode cX2_readNumber 86 = .ok (.invokevirtual 120, 3) := by decide +kernel
theorem dX2_readNumber_89 : decode cX2_readNumber 89 = .ok (.ireturn, 1) := by decide +kernel
theorem dX2_noSuchNumber_0 : decode cX2_noSuchNumber 0 = .ok (.aload_n 0, 1) := by decide +kernel
theorem dX2_noSuchNumber_1 : decode cX2_noSuchNumber 1 = .ok (.aload_n 0, 1) := by decide +kernel
theorem dX2_noSuchNumber_2 : decode cX2_noSuchNumber 2 = .ok (.getfield 22, 3) := by decide +kernel
theorem dX2_noSuchNumber_5 : decode cX2_noSuchNumber 5 = .ok (.putfield 9, 3) := by decide +kernel
theorem dX2_noSuchNumber_8 : decode cX2_noSuchNumber 8 = .ok (.iconst (-1), 1) := by decide +kernel
theorem dX2_noSuchNumber_9 : decode cX2_noSuchNumber 9 = .ok (.ireturn, 1) := by decide +kernel
theorem dX2_readGait_0 : decode cX2_readGait 0 = .ok (.aload_n 0, 1) := by decide +kernel
theorem dX2_readGait_1 : decode cX2_readGait 1 = .ok (.iconst 0, 1) := by decide +kernel
theorem dX2_readGait_2 : decode cX2_readGait 2 = .ok (.iconst 2, 1) := by decide +kernel
theorem dX2_readGait_3 : decode cX2_readGait 3 = .ok (.invokevirtual 123, 3) := by decide +kernel
theorem dX2_readGait_6 : decode cX2_readGait 6 = .ok (.istore_n 1, 1) := by decide +kernel
theorem dX2_readGait_7 : decode cX2_readGait 7 = .ok (.iload_n 1, 1) := by decide +kernel
theorem dX2_readGait_8 : decode cX2_readGait 8 = .ok (.iconst (-1), 1) := by decide +kernel
theorem dX2_readGait_9 : decode cX2_readGait 9 = .ok (.if_icmp .eq 12, 3) := by decide +kernel
theorem dX2_readGait_12 : decode cX2_readGait 12 = .ok (.aload_n 0, 1) := by decide +kernel
theorem dX2_readGait_13 : decode cX2_readGait 13 = .ok (.bipush 32, 2) := by decide +kernel
theorem dX2_readGait_15 : decode cX2_readGait 15 = .ok (.invokevirtual 71, 3) := by decide +kernel
theorem dX2_readGait_18 : decode cX2_readGait 18 = .ok (.ifCond .ne 5, 3) := by decide +kernel
theorem dX2_readGait_21 : decode cX2_readGait 21 = .ok (.iconst 0, 1) := by decide +kernel
theorem dX2_readGait_22 : decode cX2_readGait 22 = .ok (.ireturn, 1) := by decide +kernel
theorem dX2_readGait_23 : decode cX2_readGait 23 = .ok (.iconst 0, 1) := by decide +kernel
theorem dX2_readGait_24 : decode cX2_readGait 24 = .ok (.istore_n 2, 1) := by decide +kernel
theorem dX2_readGait_25 : decode cX2_readGait 25 = .ok (.iconst 0, 1) := by decide +kernel
theorem dX2_readGait_26 : decode cX2_readGait 26 = .ok (.istore_n 3, 1) := by decide +kernel
theorem dX2_readGait_27 : decode cX2_readGait 27 = .ok (.iload_n 3, 1) := by decide +kernel
theorem dX2_readGait_28 : decode cX2_readGait 28 = .ok (.bipush 8, 2) := by decide +kernel
theorem dX2_readGait_30 : decode cX2_readGait 30 = .ok (.if_icmp .ge 37, 3) := by decide +kernel
theorem dX2_readGait_33 : decode cX2_readGait 33 = .ok (.aload_n 0, 1) := by decide +kernel
theorem dX2_readGait_34 : decode cX2_readGait 34 = .ok (.invokevirtual 126, 3) := by decide +kernel
theorem dX2_readGait_37 : decode cX2_readGait 37 = .ok (.iconst (-1), 1) := by decide +kernel
theorem dX2_readGait_38 : decode cX2_readGait 38 = .ok (.if_icmp .eq 29, 3) := by decide +kernel
theorem dX2_readGait_41 : decode cX2_readGait 41 = .ok (.iload_n 2, 1) := by decide +kernel
theorem dX2_readGait_42 : decode cX2_readGait 42 = .ok (.iload_n 3, 1) := by decide +kernel
theorem dX2_readGait_43 : decode cX2_readGait 43 = .ok (.aload_n 0, 1) := by decide +kernel
theorem dX2_readGait_44 : decode cX2_readGait 44 = .ok (.invokevirtual 126, 3) := by decide +kernel
theorem dX2_readGait_47 : decode cX2_readGait 47 = .ok (.invokestatic 129, 3) := by decide +kernel
theorem dX2_readGait_50 : decode cX2_readGait 50 = .ok (.istore_n 2, 1) := by decide +kernel
theorem dX2_readGait_51 : decode cX2_readGait 51 = .ok (.iinc 3 1, 3) := by decide +kernel
theorem dX2_readGait_54 : decode cX2_readGait 54 = .ok (.aload_n 0, 1) := by decide +kernel
theorem dX2_readGait_55 : decode cX2_readGait 55 = .ok (.dup, 1) := by decide +kernel
theorem dX2_readGait_56 : decode cX2_readGait 56 = .ok (.getfield 9, 3) := by decide +kernel
theorem dX2_readGait_59 : decode cX2_readGait 59 = .ok (.iconst 1, 1) := by decide +kernel
theorem dX2_readGait_60 : decode cX2_readGait 60 = .ok (.iadd, 1) := by decide +kernel
theorem dX2_readGait_61 : decode cX2_readGait 61 = .ok (.putfield 9, 3) := by decide +kernel
theorem dX2_readGait_64 : decode cX2_readGait 64 = .ok (.goto (-37), 3) := by decide +kernel
theorem dX2_readGait_67 : decode cX2_readGait 67 = .ok (.iload_n 3, 1) := by decide +kernel
theorem dX2_readGait_68 : decode cX2_readGait 68 = .ok (.ifCond .ne 5, 3) := by decide +kernel
theorem dX2_readGait_71 : decode cX2_readGait 71 = .ok (.iconst 0, 1) := by decide +kernel
theorem dX2_readGait_72 : decode cX2_readGait 72 = .ok (.ireturn, 1) := by decide +kernel
theorem dX2_readGait_73 : decode cX2_readGait 73 = .ok (.aload_n 0, 1) := by decide +kernel
theorem dX2_readGait_74 : decode cX2_readGait 74 = .ok (.getfield 32, 3) := by decide +kernel
theorem dX2_readGait_77 : decode cX2_readGait 77 = .ok (.iload_n 3, 1) := by decide +kernel
theorem dX2_readGait_78 : decode cX2_readGait 78 = .ok (.iload_n 1, 1) := by decide +kernel
theorem dX2_readGait_79 : decode cX2_readGait 79 = .ok (.iload_n 2, 1) := by decide +kernel
theorem dX2_readGait_80 : decode cX2_readGait 80 = .ok (.invokevirtual 135, 3) := by decide +kernel
theorem dX2_readGait_83 : decode cX2_readGait 83 = .ok (.pop, 1) := by decide +kernel
theorem dX2_readGait_84 : decode cX2_readGait 84 = .ok (.iconst 1, 1) := by decide +kernel
theorem dX2_readGait_85 : decode cX2_readGait 85 = .ok (.ireturn, 1) := by decide +kernel
theorem dX2_stepHere_0 : decode cX2_stepHere 0 = .ok (.aload_n 0, 1) := by decide +kernel
theorem dX2_stepHere_1 : decode cX2_stepHere 1 = .ok (.aload_n 0, 1) := by decide +kernel
theorem dX2_stepHere_2 : decode cX2_stepHere 2 = .ok (.getfield 9, 3) := by decide +kernel
theorem dX2_stepHere_5 : decode cX2_stepHere 5 = .ok (.invokevirtual 110, 3) := by decide +kernel
theorem dX2_stepHere_8 : decode cX2_stepHere 8 = .ok (.lookupswitch 52 #[(102, 44), (108, 46), (114, 48), (115, 50)], 44) := by decide +kernel
theorem dX2_stepHere_52 : decode cX2_stepHere 52 = .ok (.iconst 0, 1) := by decide +kernel
theorem dX2_stepHere_53 : decode cX2_stepHere 53 = .ok (.ireturn, 1) := by decide +kernel
theorem dX2_stepHere_54 : decode cX2_stepHere 54 = .ok (.iconst 1, 1) := by decide +kernel
theorem dX2_stepHere_55 : decode cX2_stepHere 55 = .ok (.ireturn, 1) := by decide +kernel
theorem dX2_stepHere_56 : decode cX2_stepHere 56 = .ok (.iconst 2, 1) := by decide +kernel
theorem dX2_stepHere_57 : decode cX2_stepHere 57 = .ok (.ireturn, 1) := by decide +kernel
theorem dX2_stepHere_58 : decode cX2_stepHere 58 = .ok (.iconst 3, 1) := by decide +kernel
theorem dX2_stepHere_59 : decode cX2_stepHere 59 = .ok (.ireturn, 1) := by decide +kernel
theorem dX2_stepHere_60 : decode cX2_stepHere 60 = .ok (.iconst (-1), 1) := by decide +kernel
theorem dX2_stepHere_61 : decode cX2_stepHere 61 = .ok (.ireturn, 1) := by decide +kernel
theorem dX2_readWall_0 : decode cX2_readWall 0 = .ok (.aload_n 0, 1) := by decide +kernel
theorem dX2_readWall_1 : decode cX2_readWall 1 = .ok (.iconst 0, 1) := by decide +kernel
theorem dX2_readWall_2 : decode cX2_readWall 2 = .ok (.bipush 48, 2) := by decide +kernel
theorem dX2_readWall_4 : decode cX2_readWall 4 = .ok (.invokevirtual 123, 3) := by decide +kernel
theorem dX2_readWall_7 : decode cX2_readWall 7 = .ok (.istore_n 1, 1) := by decide +kernel
theorem dX2_readWall_8 : decode cX2_readWall 8 = .ok (.iload_n 1, 1) := by decide +kernel
theorem dX2_readWall_9 : decode cX2_readWall 9 = .ok (.iconst (-1), 1) := by decide +kernel
theorem dX2_readWall_10 : decode cX2_readWall 10 = .ok (.if_icmp .eq 19, 3) := by decide +kernel
theorem dX2_readWall_13 : decode cX2_readWall 13 = .ok (.aload_n 0, 1) := by decide +kernel
theorem dX2_readWall_14 : decode cX2_readWall 14 = .ok (.getfield 32, 3) := by decide +kernel
theorem dX2_readWall_17 : decode cX2_readWall 17 = .ok (.iload_n 1, 1) := by decide +kernel
theorem dX2_readWall_18 : decode cX2_readWall 18 = .ok (.invokevirtual 138, 3) := by decide +kernel
theorem dX2_readWall_21 : decode cX2_readWall 21 = .ok (.ifCond .eq 8, 3) := by decide +kernel
theorem dX2_readWall_24 : decode cX2_readWall 24 = .ok (.aload_n 0, 1) := by decide +kernel
theorem dX2_readWall_25 : decode cX2_readWall 25 = .ok (.invokevirtual 120, 3) := by decide +kernel
theorem dX2_readWall_28 : decode cX2_readWall 28 = .ok (.istore_n 1, 1) := by decide +kernel
theorem dX2_readWall_29 : decode cX2_readWall 29 = .ok (.iload_n 1, 1) := by decide +kernel
theorem dX2_readWall_30 : decode cX2_readWall 30 = .ok (.iconst (-1), 1) := by decide +kernel
theorem dX2_readWall_31 : decode cX2_readWall 31 = .ok (.if_icmp .ne 5, 3) := by decide +kernel
theorem dX2_readWall_34 : decode cX2_readWall 34 = .ok (.iconst 0, 1) := by decide +kernel
theorem dX2_readWall_35 : decode cX2_readWall 35 = .ok (.ireturn, 1) := by decide +kernel
theorem dX2_readWall_36 : decode cX2_readWall 36 = .ok (.aload_n 0, 1) := by decide +kernel
theorem dX2_readWall_37 : decode cX2_readWall 37 = .ok (.getfield 32, 3) := by decide +kernel
theorem dX2_readWall_40 : decode cX2_readWall 40 = .ok (.iload_n 1, 1) := by decide +kernel
theorem dX2_readWall_41 : decode cX2_readWall 41 = .ok (.iconst 1, 1) := by decide +kernel
theorem dX2_readWall_42 : decode cX2_readWall 42 = .ok (.invokevirtual 141, 3) := by decide +kernel
theorem dX2_readWall_45 : decode cX2_readWall 45 = .ok (.iconst 1, 1) := by decide +kernel
theorem dX2_readWall_46 : decode cX2_readWall 46 = .ok (.ireturn, 1) := by decide +kernel
theorem dX2_readOpen_0 : decode cX2_readOpen 0 = .ok (.aload_n 0, 1) := by decide +kernel
theorem dX2_readOpen_1 : decode cX2_readOpen 1 = .ok (.iconst 0, 1) := by decide +kernel
theorem dX2_readOpen_2 : decode cX2_readOpen 2 = .ok (.bipush 48, 2) := by decide +kernel
theorem dX2_readOpen_4 : decode cX2_readOpen 4 = .ok (.invokevirtual 123, 3) := by decide +kernel
theorem dX2_readOpen_7 : decode cX2_readOpen 7 = .ok (.istore_n 1, 1) := by decide +kernel
theorem dX2_readOpen_8 : decode cX2_readOpen 8 = .ok (.iload_n 1, 1) := by decide +kernel
theorem dX2_readOpen_9 : decode cX2_readOpen 9 = .ok (.iconst (-1), 1) := by decide +kernel
theorem dX2_readOpen_10 : decode cX2_readOpen 10 = .ok (.if_icmp .ne 5, 3) := by decide +kernel
theorem dX2_readOpen_13 : decode cX2_readOpen 13 = .ok (.iconst 0, 1) := by decide +kernel
theorem dX2_readOpen_14 : decode cX2_readOpen 14 = .ok (.ireturn, 1) := by decide +kernel
theorem dX2_readOpen_15 : decode cX2_readOpen 15 = .ok (.aload_n 0, 1) := by decide +kernel
theorem dX2_readOpen_16 : decode cX2_readOpen 16 = .ok (.getfield 32, 3) := by decide +kernel
theorem dX2_readOpen_19 : decode cX2_readOpen 19 = .ok (.iload_n 1, 1) := by decide +kernel
theorem dX2_readOpen_20 : decode cX2_readOpen 20 = .ok (.iconst 0, 1) := by decide +kernel
theorem dX2_readOpen_21 : decode cX2_readOpen 21 = .ok (.invokevirtual 141, 3) := by decide +kernel
theorem dX2_readOpen_24 : decode cX2_readOpen 24 = .ok (.iconst 1, 1) := by decide +kernel
theorem dX2_readOpen_25 : decode cX2_readOpen 25 = .ok (.ireturn, 1) := by decide +kernel
theorem dX2_readWalker_0 : decode cX2_readWalker 0 = .ok (.aload_n 0, 1) := by decide +kernel
theorem dX2_readWalker_1 : decode cX2_readWalker 1 = .ok (.iconst 0, 1) := by decide +kernel
theorem dX2_readWalker_2 : decode cX2_readWalker 2 = .ok (.bipush 6, 2) := by decide +kernel
theorem dX2_readWalker_4 : decode cX2_readWalker 4 = .ok (.invokevirtual 123, 3) := by decide +kernel
theorem dX2_readWalker_7 : decode cX2_readWalker 7 = .ok (.istore_n 1, 1) := by decide +kernel
theorem dX2_readWalker_8 : decode cX2_readWalker 8 = .ok (.iload_n 1, 1) := by decide +kernel
theorem dX2_readWalker_9 : decode cX2_readWalker 9 = .ok (.iconst (-1), 1) := by decide +kernel
theorem dX2_readWalker_10 : decode cX2_readWalker 10 = .ok (.if_icmp .ne 7, 3) := by decide +kernel
theorem dX2_readWalker_13 : decode cX2_readWalker 13 = .ok (.iconst (-1), 1) := by decide +kernel
theorem dX2_readWalker_14 : decode cX2_readWalker 14 = .ok (.goto 10, 3) := by decide +kernel
theorem dX2_readWalker_17 : decode cX2_readWalker 17 = .ok (.aload_n 0, 1) := by decide +kernel
theorem dX2_readWalker_18 : decode cX2_readWalker 18 = .ok (.iconst 0, 1) := by decide +kernel
theorem dX2_readWalker_19 : decode cX2_readWalker 19 = .ok (.bipush 48, 2) := by decide +kernel
theorem dX2_readWalker_21 : decode cX2_readWalker 21 = .ok (.invokevirtual 123, 3) := by decide +kernel
theorem dX2_readWalker_24 : decode cX2_readWalker 24 = .ok (.istore_n 2, 1) := by decide +kernel
theorem dX2_readWalker_25 : decode cX2_readWalker 25 = .ok (.iload_n 2, 1) := by decide +kernel
theorem dX2_readWalker_26 : decode cX2_readWalker 26 = .ok (.iconst (-1), 1) := by decide +kernel
theorem dX2_readWalker_27 : decode cX2_readWalker 27 = .ok (.if_icmp .eq 19, 3) := by decide +kernel
theorem dX2_readWalker_30 : decode cX2_readWalker 30 = .ok (.aload_n 0, 1) := by decide +kernel
theorem dX2_readWalker_31 : decode cX2_readWalker 31 = .ok (.getfield 32, 3) := by decide +kernel
theorem dX2_readWalker_34 : decode cX2_readWalker 34 = .ok (.iload_n 2, 1) := by decide +kernel
theorem dX2_readWalker_35 : decode cX2_readWalker 35 = .ok (.invokevirtual 145, 3) := by decide +kernel
theorem dX2_readWalker_38 : decode cX2_readWalker 38 = .ok (.ifCond .eq 8, 3) := by decide +kernel
theorem dX2_readWalker_41 : decode cX2_readWalker 41 = .ok (.aload_n 0, 1) := by decide +kernel
theorem dX2_readWalker_42 : decode cX2_readWalker 42 = .ok (.invokevirtual 120, 3) := by decide +kernel
theorem dX2_readWalker_45 : decode cX2_readWalker 45 = .ok (.istore_n 2, 1) := by decide +kernel
theorem dX2_readWalker_46 : decode cX2_readWalker 46 = .ok (.iload_n 2, 1) := by decide +kernel
theorem dX2_readWalker_47 : decode cX2_readWalker 47 = .ok (.iconst (-1), 1) := by decide +kernel
theorem dX2_readWalker_48 : decode cX2_readWalker 48 = .ok (.if_icmp .ne 7, 3) := by decide +kernel
theorem dX2_readWalker_51 : decode cX2_readWalker 51 = .ok (.iconst (-1), 1) := by decide +kernel
theorem dX2_readWalker_52 : decode cX2_readWalker 52 = .ok (.goto 9, 3) := by decide +kernel
theorem dX2_readWalker_55 : decode cX2_readWalker 55 = .ok (.aload_n 0, 1) := by decide +kernel
theorem dX2_readWalker_56 : decode cX2_readWalker 56 = .ok (.iconst 0, 1) := by decide +kernel
theorem dX2_readWalker_57 : decode cX2_readWalker 57 = .ok (.iconst 3, 1) := by decide +kernel
theorem dX2_readWalker_58 : decode cX2_readWalker 58 = .ok (.invokevirtual 123, 3) := by decide +kernel
theorem dX2_readWalker_61 : decode cX2_readWalker 61 = .ok (.istore_n 3, 1) := by decide +kernel
theorem dX2_readWalker_62 : decode cX2_readWalker 62 = .ok (.iload_n 3, 1) := by decide +kernel
theorem dX2_readWalker_63 : decode cX2_readWalker 63 = .ok (.iconst (-1), 1) := by decide +kernel
theorem dX2_readWalker_64 : decode cX2_readWalker 64 = .ok (.if_icmp .ne 7, 3) := by decide +kernel
theorem dX2_readWalker_67 : decode cX2_readWalker 67 = .ok (.iconst (-1), 1) := by decide +kernel
theorem dX2_readWalker_68 : decode cX2_readWalker 68 = .ok (.goto 17, 3) := by decide +kernel
theorem dX2_readWalker_71 : decode cX2_readWalker 71 = .ok (.aload_n 0, 1) := by decide +kernel
theorem dX2_readWalker_72 : decode cX2_readWalker 72 = .ok (.iconst 0, 1) := by decide +kernel
theorem dX2_readWalker_73 : decode cX2_readWalker 73 = .ok (.aload_n 0, 1) := by decide +kernel
theorem dX2_readWalker_74 : decode cX2_readWalker 74 = .ok (.getfield 32, 3) := by decide +kernel
theorem dX2_readWalker_77 : decode cX2_readWalker 77 = .ok (.getfield 148, 3) := by decide +kernel
theorem dX2_readWalker_80 : decode cX2_readWalker 80 = .ok (.iconst 1, 1) := by decide +kernel
theorem dX2_readWalker_81 : decode cX2_readWalker 81 = .ok (.isub, 1) := by decide +kernel
theorem dX2_readWalker_82 : decode cX2_readWalker 82 = .ok (.invokevirtual 123, 3) := by decide +kernel
theorem dX2_readWalker_85 : decode cX2_readWalker 85 = .ok (.istore 4, 2) := by decide +kernel
theorem dX2_readWalker_87 : decode cX2_readWalker 87 = .ok (.iload 4, 2) := by decide +kernel
theorem dX2_readWalker_89 : decode cX2_readWalker 89 = .ok (.iconst (-1), 1) := by decide +kernel
theorem dX2_readWalker_90 : decode cX2_readWalker 90 = .ok (.if_icmp .ne 7, 3) := by decide +kernel
theorem dX2_readWalker_93 : decode cX2_readWalker 93 = .ok (.iconst (-1), 1) := by decide +kernel
theorem dX2_readWalker_94 : decode cX2_readWalker 94 = .ok (.goto 10, 3) := by decide +kernel
theorem dX2_readWalker_97 : decode cX2_readWalker 97 = .ok (.aload_n 0, 1) := by decide +kernel
theorem dX2_readWalker_98 : decode cX2_readWalker 98 = .ok (.iconst 0, 1) := by decide +kernel
theorem dX2_readWalker_99 : decode cX2_readWalker 99 = .ok (.bipush 9, 2) := by decide +kernel
theorem dX2_readWalker_101 : decode cX2_readWalker 101 = .ok (.invokevirtual 123, 3) := by decide +kernel
theorem dX2_readWalker_104 : decode cX2_readWalker 104 = .ok (.istore 5, 2) := by decide +kernel
theorem dX2_readWalker_106 : decode cX2_readWalker 106 = .ok (.iload 5, 2) := by decide +kernel
theorem dX2_readWalker_108 : decode cX2_readWalker 108 = .ok (.iconst (-1), 1) := by decide +kernel
theorem dX2_readWalker_109 : decode cX2_readWalker 109 = .ok (.if_icmp .ne 5, 3) := by decide +kernel
theorem dX2_readWalker_112 : decode cX2_readWalker 112 = .ok (.iconst 0, 1) := by decide +kernel
theorem dX2_readWalker_113 : decode cX2_readWalker 113 = .ok (.ireturn, 1) := by decide +kernel
theorem dX2_readWalker_114 : decode cX2_readWalker 114 = .ok (.aload_n 0, 1) := by decide +kernel
theorem dX2_readWalker_115 : decode cX2_readWalker 115 = .ok (.getfield 32, 3) := by decide +kernel
theorem dX2_readWalker_118 : decode cX2_readWalker 118 = .ok (.iload_n 1, 1) := by decide +kernel
theorem dX2_readWalker_119 : decode cX2_readWalker 119 = .ok (.iload_n 2, 1) := by decide +kernel
theorem dX2_readWalker_120 : decode cX2_readWalker 120 = .ok (.iload_n 3, 1) := by decide +kernel
theorem dX2_readWalker_121 : decode cX2_readWalker 121 = .ok (.iload 4, 2) := by decide +kernel
theorem dX2_readWalker_123 : decode cX2_readWalker 123 = .ok (.iload 5, 2) := by decide +kernel
theorem dX2_readWalker_125 : decode cX2_readWalker 125 = .ok (.invokevirtual 151, 3) := by decide +kernel
theorem dX2_readWalker_128 : decode cX2_readWalker 128 = .ok (.pop, 1) := by decide +kernel
theorem dX2_readWalker_129 : decode cX2_readWalker 129 = .ok (.iconst 1, 1) := by decide +kernel
theorem dX2_readWalker_130 : decode cX2_readWalker 130 = .ok (.ireturn, 1) := by decide +kernel
theorem dX2_readBeats_0 : decode cX2_readBeats 0 = .ok (.aload_n 0, 1) := by decide +kernel
theorem dX2_readBeats_1 : decode cX2_readBeats 1 = .ok (.iconst 1, 1) := by decide +kernel
theorem dX2_readBeats_2 : decode cX2_readBeats 2 = .ok (.bipush 99, 2) := by decide +kernel
theorem dX2_readBeats_4 : decode cX2_readBeats 4 = .ok (.invokevirtual 123, 3) := by decide +kernel
theorem dX2_readBeats_7 : decode cX2_readBeats 7 = .ok (.istore_n 1, 1) := by decide +kernel
theorem dX2_readBeats_8 : decode cX2_readBeats 8 = .ok (.iload_n 1, 1) := by decide +kernel
theorem dX2_readBeats_9 : decode cX2_readBeats 9 = .ok (.iconst (-1), 1) := by decide +kernel
theorem dX2_readBeats_10 : decode cX2_readBeats 10 = .ok (.if_icmp .ne 5, 3) := by decide +kernel
theorem dX2_readBeats_13 : decode cX2_readBeats 13 = .ok (.iconst 0, 1) := by decide +kernel
theorem dX2_readBeats_14 : decode cX2_readBeats 14 = .ok (.ireturn, 1) := by decide +kernel
theorem dX2_readBeats_15 : decode cX2_readBeats 15 = .ok (.aload_n 0, 1) := by decide +kernel
theorem dX2_readBeats_16 : decode cX2_readBeats 16 = .ok (.getfield 32, 3) := by decide +kernel
theorem dX2_readBeats_19 : decode cX2_readBeats 19 = .ok (.iload_n 1, 1) := by decide +kernel
theorem dX2_readBeats_20 : decode cX2_readBeats 20 = .ok (.invokevirtual 155, 3) := by decide +kernel
theorem dX2_readBeats_23 : decode cX2_readBeats 23 = .ok (.pop, 1) := by decide +kernel
theorem dX2_readBeats_24 : decode cX2_readBeats 24 = .ok (.iconst 1, 1) := by decide +kernel
theorem dX2_readBeats_25 : decode cX2_readBeats 25 = .ok (.ireturn, 1) := by decide +kernel
theorem dX3_init_0 : decode cX3_init 0 = .ok (.aload_n 0, 1) := by decide +kernel
theorem dX3_init_1 : decode cX3_init 1 = .ok (.invokespecial 3, 3) := by decide +kernel
theorem dX3_init_4 : decode cX3_init 4 = .ok (.aload_n 0, 1) := by decide +kernel
theorem dX3_init_5 : decode cX3_init 5 = .ok (.iconst (-1), 1) := by decide +kernel
theorem dX3_init_6 : decode cX3_init 6 = .ok (.putfield 9, 3) := by decide +kernel
theorem dX3_init_9 : decode cX3_init 9 = .ok (.aload_n 0, 1) := by decide +kernel
theorem dX3_init_10 : decode cX3_init 10 = .ok (.iconst 0, 1) := by decide +kernel
theorem dX3_init_11 : decode cX3_init 11 = .ok (.putfield 15, 3) := by decide +kernel
theorem dX3_init_14 : decode cX3_init 14 = .ok (.aload_n 0, 1) := by decide +kernel
theorem dX3_init_15 : decode cX3_init 15 = .ok (.sipush 160, 3) := by decide +kernel
theorem dX3_init_18 : decode cX3_init 18 = .ok (.newarray .long, 2) := by decide +kernel
theorem dX3_init_20 : decode cX3_init 20 = .ok (.putfield 18, 3) := by decide +kernel
theorem dX3_init_23 : decode cX3_init 23 = .ok (.return_, 1) := by decide +kernel
theorem dX3_hasRow_0 : decode cX3_hasRow 0 = .ok (.aload_n 0, 1) := by decide +kernel
theorem dX3_hasRow_1 : decode cX3_hasRow 1 = .ok (.getfield 9, 3) := by decide +kernel
theorem dX3_hasRow_4 : decode cX3_hasRow 4 = .ok (.bipush 100, 2) := by decide +kernel
theorem dX3_hasRow_6 : decode cX3_hasRow 6 = .ok (.if_icmp .lt 7, 3) := by decide +kernel
theorem dX3_hasRow_9 : decode cX3_hasRow 9 = .ok (.iconst 1, 1) := by decide +kernel
theorem dX3_hasRow_10 : decode cX3_hasRow 10 = .ok (.goto 4, 3) := by decide +kernel
theorem dX3_hasRow_13 : decode cX3_hasRow 13 = .ok (.iconst 0, 1) := by decide +kernel
theorem dX3_hasRow_14 : decode cX3_hasRow 14 = .ok (.ireturn, 1) := by decide +kernel
theorem dX3_hasWalker_0 : decode cX3_hasWalker 0 = .ok (.aload_n 0, 1) := by decide +kernel
theorem dX3_hasWalker_1 : decode cX3_hasWalker 1 = .ok (.getfield 9, 3) := by decide +kernel
theorem dX3_hasWalker_4 : decode cX3_hasWalker 4 = .ok (.ifCond .lt 16, 3) := by decide +kernel
theorem dX3_hasWalker_7 : decode cX3_hasWalker 7 = .ok (.aload_n 0, 1) := by decide +kernel
theorem dX3_hasWalker_8 : decode cX3_hasWalker 8 = .ok (.getfield 9, 3) := by decide +kernel
theorem dX3_hasWalker_11 : decode cX3_hasWalker 11 = .ok (.bipush 100, 2) := by decide +kernel
theorem dX3_hasWalker_13 : decode cX3_hasWalker 13 = .ok (.if_icmp .ge 7, 3) := by decide +kernel
theorem dX3_hasWalker_16 : decode cX3_hasWalker 16 = .ok (.iconst 1, 1) := by decide +kernel
theorem dX3_hasWalker_17 : decode cX3_hasWalker 17 = .ok (.goto 4, 3) := by decide +kernel
theorem dX3_hasWalker_20 : decode cX3_hasWalker 20 = .ok (.iconst 0, 1) := by decide +kernel
theorem dX3_hasWalker_21 : decode cX3_hasWalker 21 = .ok (.ireturn, 1) := by decide +kernel
theorem dX3_hold_0 : decode cX3_hold 0 = .ok (.aload_n 0, 1) := by decide +kernel
theorem dX3_hold_1 : decode cX3_hold 1 = .ok (.iload_n 1, 1) := by decide +kernel
theorem dX3_hold_2 : decode cX3_hold 2 = .ok (.putfield 9, 3) := by decide +kernel
theorem dX3_hold_5 : decode cX3_hold 5 = .ok (.aload_n 0, 1) := by decide +kernel
theorem dX3_hold_6 : decode cX3_hold 6 = .ok (.iconst 0, 1) := by decide +kernel
theorem dX3_hold_7 : decode cX3_hold 7 = .ok (.putfield 15, 3) := by decide +kernel
theorem dX3_hold_10 : decode cX3_hold 10 = .ok (.return_, 1) := by decide +kernel
theorem dX3_beginRow_0 : decode cX3_beginRow 0 = .ok (.aload_n 0, 1) := by decide +kernel
theorem dX3_beginRow_1 : decode cX3_beginRow 1 = .ok (.bipush 100, 2) := by decide +kernel
theorem dX3_beginRow_3 : decode cX3_beginRow 3 = .ok (.iload_n 1, 1) := by decide +kernel
theorem dX3_beginRow_4 : decode cX3_beginRow 4 = .ok (.iadd, 1) := by decide +kernel
theorem dX3_beginRow_5 : decode cX3_beginRow 5 = .ok (.putfield 9, 3) := by decide +kernel
theorem dX3_beginRow_8 : decode cX3_beginRow 8 = .ok (.aload_n 0, 1) := by decide +kernel
theorem dX3_beginRow_9 : decode cX3_beginRow 9 = .ok (.iload_n 2, 1) := by decide +kernel
theorem dX3_beginRow_10 : decode cX3_beginRow 10 = .ok (.putfield 15, 3) := by decide +kernel
theorem dX3_beginRow_13 : decode cX3_beginRow 13 = .ok (.iconst 0, 1) := by decide +kernel
theorem dX3_beginRow_14 : decode cX3_beginRow 14 = .ok (.istore_n 3, 1) := by decide +kernel
theorem dX3_beginRow_15 : decode cX3_beginRow 15 = .ok (.iload_n 3, 1) := by decide +kernel
theorem dX3_beginRow_16 : decode cX3_beginRow 16 = .ok (.iload_n 2, 1) := by decide +kernel
theorem dX3_beginRow_17 : decode cX3_beginRow 17 = .ok (.if_icmp .ge 25, 3) := by decide +kernel
theorem dX3_beginRow_20 : decode cX3_beginRow 20 = .ok (.iload_n 3, 1) := by decide +kernel
theorem dX3_beginRow_21 : decode cX3_beginRow 21 = .ok (.aload_n 0, 1) := by decide +kernel
theorem dX3_beginRow_22 : decode cX3_beginRow 22 = .ok (.getfield 18, 3) := by decide +kernel
theorem dX3_beginRow_25 : decode cX3_beginRow 25 = .ok (.arraylength, 1) := by decide +kernel
theorem dX3_beginRow_26 : decode cX3_beginRow 26 = .ok (.if_icmp .ge 16, 3) := by decide +kernel
theorem dX3_beginRow_29 : decode cX3_beginRow 29 = .ok (.aload_n 0, 1) := by decide +kernel
theorem dX3_beginRow_30 : decode cX3_beginRow 30 = .ok (.getfield 18, 3) := by decide +kernel
theorem dX3_beginRow_33 : decode cX3_beginRow 33 = .ok (.iload_n 3, 1) := by decide +kernel
theorem dX3_beginRow_34 : decode cX3_beginRow 34 = .ok (.lconst 0, 1) := by decide +kernel
theorem dX3_beginRow_35 : decode cX3_beginRow 35 = .ok (.lastore, 1) := by decide +kernel
theorem dX3_beginRow_36 : decode cX3_beginRow 36 = .ok (.iinc 3 1, 3) := by decide +kernel
theorem dX3_beginRow_39 : decode cX3_beginRow 39 = .ok (.goto (-24), 3) := by decide +kernel
theorem dX3_beginRow_42 : decode cX3_beginRow 42 = .ok (.return_, 1) := by decide +kernel
theorem dX3_reaches_0 : decode cX3_reaches 0 = .ok (.iload_n 1, 1) := by decide +kernel
theorem dX3_reaches_1 : decode cX3_reaches 1 = .ok (.ifCond .lt 24, 3) := by decide +kernel
theorem dX3_reaches_4 : decode cX3_reaches 4 = .ok (.iload_n 1, 1) := by decide +kernel
theorem dX3_reaches_5 : decode cX3_reaches 5 = .ok (.aload_n 0, 1) := by decide +kernel
theorem dX3_reaches_6 : decode cX3_reaches 6 = .ok (.getfield 15, 3) := by decide +kernel
theorem dX3_reaches_9 : decode cX3_reaches 9 = .ok (.if_icmp .ge 16, 3) := by decide +kernel
theorem dX3_reaches_12 : decode cX3_reaches 12 = .ok (.iload_n 1, 1) := by decide +kernel
theorem dX3_reaches_13 : decode cX3_reaches 13 = .ok (.aload_n 0, 1) := by decide +kernel
theorem dX3_reaches_14 : decode cX3_reaches 14 = .ok (.getfield 18, 3) := by decide +kernel
theorem dX3_reaches_17 : decode cX3_reaches 17 = .ok (.arraylength, 1) := by decide +kernel
theorem dX3_reaches_18 : decode cX3_reaches 18 = .ok (.if_icmp .ge 7, 3) := by decide +kernel
theorem dX3_reaches_21 : decode cX3_reaches 21 = .ok (.iconst 1, 1) := by decide +kernel
theorem dX3_reaches_22 : decode cX3_reaches 22 = .ok (.goto 4, 3) := by decide +kernel
theorem dX3_reaches_25 : decode cX3_reaches 25 = .ok (.iconst 0, 1) := by decide +kernel
theorem dX3_reaches_26 : decode cX3_reaches 26 = .ok (.ireturn, 1) := by decide +kernel
theorem dX3_elementAt_0 : decode cX3_elementAt 0 = .ok (.aload_n 0, 1) := by decide +kernel
theorem dX3_elementAt_1 : decode cX3_elementAt 1 = .ok (.iload_n 1, 1) := by decide +kernel
theorem dX3_elementAt_2 : decode cX3_elementAt 2 = .ok (.invokevirtual 22, 3) := by decide +kernel
theorem dX3_elementAt_5 : decode cX3_elementAt 5 = .ok (.ifCond .eq 12, 3) := by decide +kernel
theorem dX3_elementAt_8 : decode cX3_elementAt 8 = .ok (.aload_n 0, 1) := by decide +kernel
theorem dX3_elementAt_9 : decode cX3_elementAt 9 = .ok (.getfield 18, 3) := by decide +kernel
theorem dX3_elementAt_12 : decode cX3_elementAt 12 = .ok (.iload_n 1, 1) := by decide +kernel
theorem dX3_elementAt_13 : decode cX3_elementAt 13 = .ok (.laload, 1) := by decide +kernel
theorem dX3_elementAt_14 : decode cX3_elementAt 14 = .ok (.goto 4, 3) := by decide +kernel
theorem dX3_elementAt_17 : decode cX3_elementAt 17 = .ok (.lconst 0, 1) := by decide +kernel
theorem dX3_elementAt_18 : decode cX3_elementAt 18 = .ok (.lreturn, 1) := by decide +kernel
theorem dX3_numberAt_0 : decode cX3_numberAt 0 = .ok (.aload_n 0, 1) := by decide +kernel
theorem dX3_numberAt_1 : decode cX3_numberAt 1 = .ok (.iload_n 1, 1) := by decide +kernel
theorem dX3_numberAt_2 : decode cX3_numberAt 2 = .ok (.invokevirtual 26, 3) := by decide +kernel
theorem dX3_numberAt_5 : decode cX3_numberAt 5 = .ok (.l2i, 1) := by decide +kernel
theorem dX3_numberAt_6 : decode cX3_numberAt 6 = .ok (.ireturn, 1) := by decide +kernel
theorem dX3_put_0 : decode cX3_put 0 = .ok (.aload_n 0, 1) := by decide +kernel
theorem dX3_put_1 : decode cX3_put 1 = .ok (.iload_n 1, 1) := by decide +kernel
theorem dX3_put_2 : decode cX3_put 2 = .ok (.invokevirtual 22, 3) := by decide +kernel
theorem dX3_put_5 : decode cX3_put 5 = .ok (.ifCond .eq 14, 3) := by decide +kernel
theorem dX3_put_8 : decode cX3_put 8 = .ok (.aload_n 0, 1) := by decide +kernel
theorem dX3_put_9 : decode cX3_put 9 = .ok (.getfield 18, 3) := by decide +kernel
theorem dX3_put_12 : decode cX3_put 12 = .ok (.iload_n 1, 1) := by decide +kernel
theorem dX3_put_13 : decode cX3_put 13 = .ok (.aload_n 0, 1) := by decide +kernel
theorem dX3_put_14 : decode cX3_put 14 = .ok (.lload_n 2, 1) := by decide +kernel
theorem dX3_put_15 : decode cX3_put 15 = .ok (.invokevirtual 30, 3) := by decide +kernel
theorem dX3_put_18 : decode cX3_put 18 = .ok (.lastore, 1) := by decide +kernel
theorem dX3_put_19 : decode cX3_put 19 = .ok (.return_, 1) := by decide +kernel
theorem dX3_cutToSort_0 : decode cX3_cutToSort 0 = .ok (.aload_n 0, 1) := by decide +kernel
theorem dX3_cutToSort_1 : decode cX3_cutToSort 1 = .ok (.getfield 9, 3) := by decide +kernel
theorem dX3_cutToSort_4 : decode cX3_cutToSort 4 = .ok (.bipush 100, 2) := by decide +kernel
theorem dX3_cutToSort_6 : decode cX3_cutToSort 6 = .ok (.isub, 1) := by decide +kernel
theorem dX3_cutToSort_7 : decode cX3_cutToSort 7 = .ok (.tableswitch 39 0 2 #[25, 30, 35], 25) := by decide +kernel
theorem dX3_cutToSort_32 : decode cX3_cutToSort 32 = .ok (.lload_n 1, 1) := by decide +kernel
theorem dX3_cutToSort_33 : decode cX3_cutToSort 33 = .ok (.l2i, 1) := by decide +kernel
theorem dX3_cutToSort_34 : decode cX3_cutToSort 34 = .ok (.i2b, 1) := by decide +kernel
theorem dX3_cutToSort_35 : decode cX3_cutToSort 35 = .ok (.i2l, 1) := by decide +kernel
theorem dX3_cutToSort_36 : decode cX3_cutToSort 36 = .ok (.lreturn, 1) := by decide +kernel
theorem dX3_cutToSort_37 : decode cX3_cutToSort 37 = .ok (.lload_n 1, 1) := by decide +kernel
theorem dX3_cutToSort_38 : decode cX3_cutToSort 38 = .ok (.l2i, 1) := by decide +kernel
theorem dX3_cutToSort_39 : decode cX3_cutToSort 39 = .ok (.i2s, 1) := by decide +kernel
theorem dX3_cutToSort_40 : decode cX3_cutToSort 40 = .ok (.i2l, 1) := by decide +kernel
theorem dX3_cutToSort_41 : decode cX3_cutToSort 41 = .ok (.lreturn, 1) := by decide +kernel
theorem dX3_cutToSort_42 : decode cX3_cutToSort 42 = .ok (.lload_n 1, 1) := by decide +kernel
theorem dX3_cutToSort_43 : decode cX3_cutToSort 43 = .ok (.l2i, 1) := by decide +kernel
theorem dX3_cutToSort_44 : decode cX3_cutToSort 44 = .ok (.i2l, 1) := by decide +kernel
theorem dX3_cutToSort_45 : decode cX3_cutToSort 45 = .ok (.lreturn, 1) := by decide +kernel
theorem dX3_cutToSort_46 : decode cX3_cutToSort 46 = .ok (.lload_n 1, 1) := by decide +kernel
theorem dX3_cutToSort_47 : decode cX3_cutToSort 47 = .ok (.lreturn, 1) := by decide +kernel
theorem dX3_spans_0 : decode cX3_spans 0 = .ok (.iload_n 1, 1) := by decide +kernel
theorem dX3_spans_1 : decode cX3_spans 1 = .ok (.ifCond .lt 33, 3) := by decide +kernel
theorem dX3_spans_4 : decode cX3_spans 4 = .ok (.iload_n 2, 1) := by decide +kernel
theorem dX3_spans_5 : decode cX3_spans 5 = .ok (.ifCond .lt 29, 3) := by decide +kernel
theorem dX3_spans_8 : decode cX3_spans 8 = .ok (.aload_n 0, 1) := by decide +kernel
theorem dX3_spans_9 : decode cX3_spans 9 = .ok (.getfield 15, 3) := by decide +kernel
theorem dX3_spans_12 : decode cX3_spans 12 = .ok (.aload_n 0, 1) := by decide +kernel
theorem dX3_spans_13 : decode cX3_spans 13 = .ok (.getfield 18, 3) := by decide +kernel
theorem dX3_spans_16 : decode cX3_spans 16 = .ok (.arraylength, 1) := by decide +kernel
theorem dX3_spans_17 : decode cX3_spans 17 = .ok (.if_icmp .gt 17, 3) := by decide +kernel
theorem dX3_spans_20 : decode cX3_spans 20 = .ok (.iload_n 2, 1) := by decide +kernel
theorem dX3_spans_21 : decode cX3_spans 21 = .ok (.aload_n 0, 1) := by decide +kernel
theorem dX3_spans_22 : decode cX3_spans 22 = .ok (.getfield 15, 3) := by decide +kernel
theorem dX3_spans_25 : decode cX3_spans 25 = .ok (.iload_n 1, 1) := by decide +kernel
theorem dX3_spans_26 : decode cX3_spans 26 = .ok (.isub, 1) := by decide +kernel
theorem dX3_spans_27 : decode cX3_spans 27 = .ok (.if_icmp .gt 7, 3) := by decide +kernel
theorem dX3_spans_30 : decode cX3_spans 30 = .ok (.iconst 1, 1) := by decide +kernel
theorem dX3_spans_31 : decode cX3_spans 31 = .ok (.goto 4, 3) := by decide +kernel
theorem dX3_spans_34 : decode cX3_spans 34 = .ok (.iconst 0, 1) := by decide +kernel
theorem dX3_spans_35 : decode cX3_spans 35 = .ok (.ireturn, 1) := by decide +kernel
theorem dX3_takeOver_0 : decode cX3_takeOver 0 = .ok (.aload_n 1, 1) := by decide +kernel
theorem dX3_takeOver_1 : decode cX3_takeOver 1 = .ok (.iload_n 2, 1) := by decide +kernel
theorem dX3_takeOver_2 : decode cX3_takeOver 2 = .ok (.iload 4, 2) := by decide +kernel
theorem dX3_takeOver_4 : decode cX3_takeOver 4 = .ok (.invokevirtual 34, 3) := by decide +kernel
theorem dX3_takeOver_7 : decode cX3_takeOver 7 = .ok (.ifCond .eq 13, 3) := by decide +kernel
theorem dX3_takeOver_10 : decode cX3_takeOver 10 = .ok (.aload_n 0, 1) := by decide +kernel
theorem dX3_takeOver_11 : decode cX3_takeOver 11 = .ok (.iload_n 3, 1) := by decide +kernel
theorem dX3_takeOver_12 : decode cX3_takeOver 12 = .ok (.iload 4, 2) := by decide +kernel
theorem dX3_takeOver_14 : decode cX3_takeOver 14 = .ok (.invokevirtual 34, 3) := by decide +kernel
theorem dX3_takeOver_17 : decode cX3_takeOver 17 = .ok (.ifCond .ne 5, 3) := by decide +kernel
theorem dX3_takeOver_20 : decode cX3_takeOver 20 = .ok (.iconst 0, 1) := by decide +kernel
theorem dX3_takeOver_21 : decode cX3_takeOver 21 = .ok (.ireturn, 1) := by decide +kernel
theorem dX3_takeOver_22 : decode cX3_takeOver 22 = .ok (.aload_n 1, 1) := by decide +kernel
theorem dX3_takeOver_23 : decode cX3_takeOver 23 = .ok (.getfield 18, 3) := by decide +kernel
theorem dX3_takeOver_26 : decode cX3_takeOver 26 = .ok (.iload_n 2, 1) := by decide +kernel
theorem dX3_takeOver_27 : decode cX3_takeOver 27 = .ok (.aload_n 0, 1) := by decide +kernel
theorem dX3_takeOver_28 : decode cX3_takeOver 28 = .ok (.getfield 18, 3) := by decide +kernel
theorem dX3_takeOver_31 : decode cX3_takeOver 31 = .ok (.iload_n 3, 1) := by decide +kernel
theorem dX3_takeOver_32 : decode cX3_takeOver 32 = .ok (.iload 4, 2) := by decide +kernel
theorem dX3_takeOver_34 : decode cX3_takeOver 34 = .ok (.invokestatic 38, 3) := by decide +kernel
theorem dX3_takeOver_37 : decode cX3_takeOver 37 = .ok (.iconst 1, 1) := by decide +kernel
theorem dX3_takeOver_38 : decode cX3_takeOver 38 = .ok (.ireturn, 1) := by decide +kernel
theorem dX4_init_0 : decode cX4_init 0 = .ok (.aload_n 0, 1) := by decide +kernel
theorem dX4_init_1 : decode cX4_init 1 = .ok (.invokespecial 3, 3) := by decide +kernel
theorem dX4_init_4 : decode cX4_init 4 = .ok (.aload_n 0, 1) := by decide +kernel
theorem dX4_init_5 : decode cX4_init 5 = .ok (.lconst 0, 1) := by decide +kernel
theorem dX4_init_6 : decode cX4_init 6 = .ok (.putfield 9, 3) := by decide +kernel
theorem dX4_init_9 : decode cX4_init 9 = .ok (.aload_n 0, 1) := by decide +kernel
theorem dX4_init_10 : decode cX4_init 10 = .ok (.iconst 0, 1) := by decide +kernel
theorem dX4_init_11 : decode cX4_init 11 = .ok (.putfield 15, 3) := by decide +kernel
theorem dX4_init_14 : decode cX4_init 14 = .ok (.aload_n 0, 1) := by decide +kernel
theorem dX4_init_15 : decode cX4_init 15 = .ok (.iconst 0, 1) := by decide +kernel
theorem dX4_init_16 : decode cX4_init 16 = .ok (.putfield 19, 3) := by decide +kernel
theorem dX4_init_19 : decode cX4_init 19 = .ok (.aload_n 0, 1) := by decide +kernel
theorem dX4_init_20 : decode cX4_init 20 = .ok (.iconst 0, 1) := by decide +kernel
theorem dX4_init_21 : decode cX4_init 21 = .ok (.putfield 22, 3) := by decide +kernel
theorem dX4_init_24 : decode cX4_init 24 = .ok (.aload_n 0, 1) := by decide +kernel
theorem dX4_init_25 : decode cX4_init 25 = .ok (.iconst 0, 1) := by decide +kernel
theorem dX4_init_26 : decode cX4_init 26 = .ok (.putfield 25, 3) := by decide +kernel
theorem dX4_init_29 : decode cX4_init 29 = .ok (.aload_n 0, 1) := by decide +kernel
theorem dX4_init_30 : decode cX4_init 30 = .ok (.iconst 1, 1) := by decide +kernel
theorem dX4_init_31 : decode cX4_init 31 = .ok (.putfield 28, 3) := by decide +kernel
theorem dX4_init_34 : decode cX4_init 34 = .ok (.aload_n 0, 1) := by decide +kernel
theorem dX4_init_35 : decode cX4_init 35 = .ok (.bipush 8, 2) := by decide +kernel
theorem dX4_init_37 : decode cX4_init 37 = .ok (.anewarray 31, 3) := by decide +kernel
theorem dX4_init_40 : decode cX4_init 40 = .ok (.putfield 33, 3) := by decide +kernel
theorem dX4_init_43 : decode cX4_init 43 = .ok (.aload_n 0, 1) := by decide +kernel
theorem dX4_init_44 : decode cX4_init 44 = .ok (.bipush 6, 2) := by decide +kernel
theorem dX4_init_46 : decode cX4_init 46 = .ok (.anewarray 37, 3) := by decide +kernel
theorem dX4_init_49 : decode cX4_init 49 = .ok (.putfield 39, 3) := by decide +kernel
theorem dX4_init_52 : decode cX4_init 52 = .ok (.aload_n 0, 1) := by decide +kernel
theorem dX4_init_53 : decode cX4_init 53 = .ok (.new 31, 3) := by decide +kernel
theorem dX4_init_56 : decode cX4_init 56 = .ok (.dup, 1) := by decide +kernel
theorem dX4_init_57 : decode cX4_init 57 = .ok (.invokespecial 43, 3) := by decide +kernel
theorem dX4_init_60 : decode cX4_init 60 = .ok (.putfield 44, 3) := by decide +kernel
theorem dX4_init_63 : decode cX4_init 63 = .ok (.aload_n 0, 1) := by decide +kernel
theorem dX4_init_64 : decode cX4_init 64 = .ok (.new 37, 3) := by decide +kernel
theorem dX4_init_67 : decode cX4_init 67 = .ok (.dup, 1) := by decide +kernel
theorem dX4_init_68 : decode cX4_init 68 = .ok (.invokespecial 48, 3) := by decide +kernel
theorem dX4_init_71 : decode cX4_init 71 = .ok (.putfield 49, 3) := by decide +kernel
theorem dX4_init_74 : decode cX4_init 74 = .ok (.iconst 0, 1) := by decide +kernel
theorem dX4_init_75 : decode cX4_init 75 = .ok (.istore_n 1, 1) := by decide +kernel
theorem dX4_init_76 : decode cX4_init 76 = .ok (.iload_n 1, 1) := by decide +kernel
theorem dX4_init_77 : decode cX4_init 77 = .ok (.aload_n 0, 1) := by decide +kernel
theorem dX4_init_78 : decode cX4_init 78 = .ok (.getfield 33, 3) := by decide +kernel
theorem dX4_init_81 : decode cX4_init 81 = .ok (.arraylength, 1) := by decide +kernel
theorem dX4_init_82 : decode cX4_init 82 = .ok (.if_icmp .ge 22, 3) := by decide +kernel
theorem dX4_init_85 : decode cX4_init 85 = .ok (.aload_n 0, 1) := by decide +kernel
theorem dX4_init_86 : decode cX4_init 86 = .ok (.getfield 33, 3) := by decide +kernel
theorem dX4_init_89 : decode cX4_init 89 = .ok (.iload_n 1, 1) := by decide +kernel
theorem dX4_init_90 : decode cX4_init 90 = .ok (.new 31, 3) := by decide +kernel
theorem dX4_init_93 : decode cX4_init 93 = .ok (.dup, 1) := by decide +kernel
theorem dX4_init_94 : decode cX4_init 94 = .ok (.invokespecial 43, 3) := by decide +kernel
theorem dX4_init_97 : decode cX4_init 97 = .ok (.aastore, 1) := by decide +kernel
theorem dX4_init_98 : decode cX4_init 98 = .ok (.iinc 1 1, 3) := by decide +kernel
theorem dX4_init_101 : decode cX4_init 101 = .ok (.goto (-25), 3) := by decide +kernel
theorem dX4_init_104 : decode cX4_init 104 = .ok (.iconst 0, 1) := by decide +kernel
theorem dX4_init_105 : decode cX4_init 105 = .ok (.istore_n 1, 1) := by decide +kernel
theorem dX4_init_106 : decode cX4_init 106 = .ok (.iload_n 1, 1) := by decide +kernel
theorem dX4_init_107 : decode cX4_init 107 = .ok (.aload_n 0, 1) := by decide +kernel
theorem dX4_init_108 : decode cX4_init 108 = .ok (.getfield 39, 3) := by decide +kernel
theorem dX4_init_111 : decode cX4_init 111 = .ok (.arraylength, 1) := by decide +kernel
theorem dX4_init_112 : decode cX4_init 112 = .ok (.if_icmp .ge 22, 3) := by decide +kernel
theorem dX4_init_115 : decode cX4_init 115 = .ok (.aload_n 0, 1) := by decide +kernel
theorem dX4_init_116 : decode cX4_init 116 = .ok (.getfield 39, 3) := by decide +kernel
theorem dX4_init_119 : decode cX4_init 119 = .ok (.iload_n 1, 1) := by decide +kernel
theorem dX4_init_120 : decode cX4_init 120 = .ok (.new 37, 3) := by decide +kernel
theorem dX4_init_123 : decode cX4_init 123 = .ok (.dup, 1) := by decide +kernel
theorem dX4_init_124 : decode cX4_init 124 = .ok (.invokespecial 48, 3) := by decide +kernel
theorem dX4_init_127 : decode cX4_init 127 = .ok (.aastore, 1) := by decide +kernel
theorem dX4_init_128 : decode cX4_init 128 = .ok (.iinc 1 1, 3) := by decide +kernel
theorem dX4_init_131 : decode cX4_init 131 = .ok (.goto (-25), 3) := by decide +kernel
theorem dX4_init_134 : decode cX4_init 134 = .ok (.return_, 1) := by decide +kernel
theorem dX4_becomeAs_0 : decode cX4_becomeAs 0 = .ok (.aload_n 0, 1) := by decide +kernel
theorem dX4_becomeAs_1 : decode cX4_becomeAs 1 = .ok (.aload_n 1, 1) := by decide +kernel
theorem dX4_becomeAs_2 : decode cX4_becomeAs 2 = .ok (.getfield 9, 3) := by decide +kernel
theorem dX4_becomeAs_5 : decode cX4_becomeAs 5 = .ok (.putfield 9, 3) := by decide +kernel
theorem dX4_becomeAs_8 : decode cX4_becomeAs 8 = .ok (.aload_n 0, 1) := by decide +kernel
theorem dX4_becomeAs_9 : decode cX4_becomeAs 9 = .ok (.aload_n 1, 1) := by decide +kernel
theorem dX4_becomeAs_10 : decode cX4_becomeAs 10 = .ok (.getfield 15, 3) := by decide +kernel
theorem dX4_becomeAs_13 : decode cX4_becomeAs 13 = .ok (.putfield 15, 3) := by decide +kernel
theorem dX4_becomeAs_16 : decode cX4_becomeAs 16 = .ok (.iconst 0, 1) := by decide +kernel
theorem dX4_becomeAs_17 : decode cX4_becomeAs 17 = .ok (.istore_n 2, 1) := by decide +kernel
theorem dX4_becomeAs_18 : decode cX4_becomeAs 18 = .ok (.iload_n 2, 1) := by decide +kernel
theorem dX4_becomeAs_19 : decode cX4_becomeAs 19 = .ok (.aload_n 0, 1) := by decide +kernel
theorem dX4_becomeAs_20 : decode cX4_becomeAs 20 = .ok (.getfield 15, 3) := by decide +kernel
theorem dX4_becomeAs_23 : decode cX4_becomeAs 23 = .ok (.if_icmp .ge 22, 3) := by decide +kernel
theorem dX4_becomeAs_26 : decode cX4_becomeAs 26 = .ok (.aload_n 0, 1) := by decide +kernel
theorem dX4_becomeAs_27 : decode cX4_becomeAs 27 = .ok (.iload_n 2, 1) := by decide +kernel
theorem dX4_becomeAs_28 : decode cX4_becomeAs 28 = .ok (.invokevirtual 53, 3) := by decide +kernel
theorem dX4_becomeAs_31 : decode cX4_becomeAs 31 = .ok (.aload_n 1, 1) := by decide +kernel
theorem dX4_becomeAs_32 : decode cX4_becomeAs 32 = .ok (.iload_n 2, 1) := by decide +kernel
theorem dX4_becomeAs_33 : decode cX4_becomeAs 33 = .ok (.invokevirtual 53, 3) := by decide +kernel
theorem dX4_becomeAs_36 : decode cX4_becomeAs 36 = .ok (.invokevirtual 57, 3) := by decide +kernel
theorem dX4_becomeAs_39 : decode cX4_becomeAs 39 = .ok (.iinc 2 1, 3) := by decide +kernel
theorem dX4_becomeAs_42 : decode cX4_becomeAs 42 = .ok (.goto (-24), 3) := by decide +kernel
theorem dX4_becomeAs_45 : decode cX4_becomeAs 45 = .ok (.aload_n 0, 1) := by decide +kernel
theorem dX4_becomeAs_46 : decode cX4_becomeAs 46 = .ok (.aload_n 1, 1) := by decide +kernel
theorem dX4_becomeAs_47 : decode cX4_becomeAs 47 = .ok (.invokevirtual 61, 3) := by decide +kernel
theorem dX4_becomeAs_50 : decode cX4_becomeAs 50 = .ok (.aload_n 0, 1) := by decide +kernel
theorem dX4_becomeAs_51 : decode cX4_becomeAs 51 = .ok (.aload_n 1, 1) := by decide +kernel
theorem dX4_becomeAs_52 : decode cX4_becomeAs 52 = .ok (.getfield 22, 3) := by decide +kernel
theorem dX4_becomeAs_55 : decode cX4_becomeAs 55 = .ok (.putfield 22, 3) := by decide +kernel
theorem dX4_becomeAs_58 : decode cX4_becomeAs 58 = .ok (.aload_n 0, 1) := by decide +kernel
theorem dX4_becomeAs_59 : decode cX4_becomeAs 59 = .ok (.aload_n 1, 1) := by decide +kernel
theorem dX4_becomeAs_60 : decode cX4_becomeAs 60 = .ok (.getfield 25, 3) := by decide +kernel
theorem dX4_becomeAs_63 : decode cX4_becomeAs 63 = .ok (.putfield 25, 3) := by decide +kernel
theorem dX4_becomeAs_66 : decode cX4_becomeAs 66 = .ok (.aload_n 0, 1) := by decide +kernel
theorem dX4_becomeAs_67 : decode cX4_becomeAs 67 = .ok (.aload_n 1, 1) := by decide +kernel
theorem dX4_becomeAs_68 : decode cX4_becomeAs 68 = .ok (.getfield 28, 3) := by decide +kernel
theorem dX4_becomeAs_71 : decode cX4_becomeAs 71 = .ok (.putfield 28, 3) := by decide +kernel
theorem dX4_becomeAs_74 : decode cX4_becomeAs 74 = .ok (.return_, 1) := by decide +kernel
theorem dX4_takeWalkersOf_0 : decode cX4_takeWalkersOf 0 = .ok (.aload_n 0, 1) := by decide +kernel
theorem dX4_takeWalkersOf_1 : decode cX4_takeWalkersOf 1 = .ok (.aload_n 1, 1) := by decide +kernel
theorem dX4_takeWalkersOf_2 : decode cX4_takeWalkersOf 2 = .ok (.getfield 19, 3) := by decide +kernel
theorem dX4_takeWalkersOf_5 : decode cX4_takeWalkersOf 5 = .ok (.putfield 19, 3) := by decide +kernel
theorem dX4_takeWalkersOf_8 : decode cX4_takeWalkersOf 8 = .ok (.iconst 0, 1) := by decide +kernel
theorem dX4_takeWalkersOf_9 : decode cX4_takeWalkersOf 9 = .ok (.istore_n 2, 1) := by decide +kernel
theorem dX4_takeWalkersOf_10 : decode cX4_takeWalkersOf 10 = .ok (.iload_n 2, 1) := by decide +kernel
theorem dX4_takeWalkersOf_11 : decode cX4_takeWalkersOf 11 = .ok (.aload_n 0, 1) := by decide +kernel
theorem dX4_takeWalkersOf_12 : decode cX4_takeWalkersOf 12 = .ok (.getfield 19, 3) := by decide +kernel
theorem dX4_takeWalkersOf_15 : decode cX4_takeWalkersOf 15 = .ok (.if_icmp .ge 22, 3) := by decide +kernel
theorem dX4_takeWalkersOf_18 : decode cX4_takeWalkersOf 18 = .ok (.aload_n 0, 1) := by decide +kernel
theorem dX4_takeWalkersOf_19 : decode cX4_takeWalkersOf 19 = .ok (.iload_n 2, 1) := by decide +kernel
theorem dX4_takeWalkersOf_20 : decode cX4_takeWalkersOf 20 = .ok (.invokevirtual 65, 3) := by decide +kernel
theorem dX4_takeWalkersOf_23 : decode cX4_takeWalkersOf 23 = .ok (.aload_n 1, 1) := by decide +kernel
theorem dX4_takeWalkersOf_24 : decode cX4_takeWalkersOf 24 = .ok (.iload_n 2, 1) := by decide +kernel
theorem dX4_takeWalkersOf_25 : decode cX4_takeWalkersOf 25 = .ok (.invokevirtual 65, 3) := by decide +kernel
theorem dX4_takeWalkersOf_28 : decode cX4_takeWalkersOf 28 = .ok (.invokevirtual 69, 3) := by decide +kernel
theorem dX4_takeWalkersOf_31 : decode cX4_takeWalkersOf 31 = .ok (.iinc 2 1, 3) := by decide +kernel
theorem dX4_takeWalkersOf_34 : decode cX4_takeWalkersOf 34 = .ok (.goto (-24), 3) := by decide +kernel
theorem dX4_takeWalkersOf_37 : decode cX4_takeWalkersOf 37 = .ok (.return_, 1) := by decide +kernel
theorem dX4_keepOnly_0 : decode cX4_keepOnly 0 = .ok (.aload_n 0, 1) := by decide +kernel
theorem dX4_keepOnly_1 : decode cX4_keepOnly 1 = .ok (.iconst 0, 1) := by decide +kernel
theorem dX4_keepOnly_2 : decode cX4_keepOnly 2 = .ok (.invokevirtual 65, 3) := by decide +kernel
theorem dX4_keepOnly_5 : decode cX4_keepOnly 5 = .ok (.aload_n 0, 1) := by decide +kernel
theorem dX4_keepOnly_6 : decode cX4_keepOnly 6 = .ok (.iload_n 1, 1) := by decide +kernel
theorem dX4_keepOnly_7 : decode cX4_keepOnly 7 = .ok (.invokevirtual 65, 3) := by decide +kernel
theorem dX4_keepOnly_10 : decode cX4_keepOnly 10 = .ok (.invokevirtual 69, 3) := by decide +kernel
theorem dX4_keepOnly_13 : decode cX4_keepOnly 13 = .ok (.aload_n 0, 1) := by decide +kernel
theorem dX4_keepOnly_14 : decode cX4_keepOnly 14 = .ok (.iconst 1, 1) := by decide +kernel
theorem dX4_keepOnly_15 : decode cX4_keepOnly 15 = .ok (.putfield 19, 3) := by decide +kernel
theorem dX4_keepOnly_18 : decode cX4_keepOnly 18 = .ok (.return_, 1) := by decide +kernel
theorem dX4_hasGait_0 : decode cX4_hasGait 0 = .ok (.iload_n 1, 1) := by decide +kernel
theorem dX4_hasGait_1 : decode cX4_hasGait 1 = .ok (.ifCond .lt 15, 3) := by decide +kernel
theorem dX4_hasGait_4 : decode cX4_hasGait 4 = .ok (.iload_n 1, 1) := by decide +kernel
theorem dX4_hasGait_5 : decode cX4_hasGait 5 = .ok (.aload_n 0, 1) := by decide +kernel
theorem dX4_hasGait_6 : decode cX4_hasGait 6 = .ok (.getfield 15, 3) := by decide +kernel
theorem dX4_hasGait_9 : decode cX4_hasGait 9 = .ok (.if_icmp .ge 7, 3) := by decide +kernel
theorem dX4_hasGait_12 : decode cX4_hasGait 12 = .ok (.iconst 1, 1) := by decide +kernel
theorem dX4_hasGait_13 : decode cX4_hasGait 13 = .ok (.goto 4, 3) := by decide +kernel
theorem dX4_hasGait_16 : decode cX4_hasGait 16 = .ok (.iconst 0, 1) := by decide +kernel
theorem dX4_hasGait_17 : decode cX4_hasGait 17 = .ok (.ireturn, 1) := by decide +kernel
theorem dX4_hasWalker_0 : decode cX4_hasWalker 0 = .ok (.iload_n 1, 1) := by decide +kernel
theorem dX4_hasWalker_1 : decode cX4_hasWalker 1 = .ok (.ifCond .lt 15, 3) := by decide +kernel
theorem dX4_hasWalker_4 : decode cX4_hasWalker 4 = .ok (.iload_n 1, 1) := by decide +kernel
theorem dX4_hasWalker_5 : decode cX4_hasWalker 5 = .ok (.aload_n 0, 1) := by decide +kernel
theorem dX4_hasWalker_6 : decode cX4_hasWalker 6 = .ok (.getfield 19, 3) := by decide +kernel
theorem dX4_hasWalker_9 : decode cX4_hasWalker 9 = .ok (.if_icmp .ge 7, 3) := by decide +kernel
theorem dX4_hasWalker_12 : decode cX4_hasWalker 12 = .ok (.iconst 1, 1) := by decide +kernel
theorem dX4_hasWalker_13 : decode cX4_hasWalker 13 = .ok (.goto 4, 3) := by decide +kernel
theorem dX4_hasWalker_16 : decode cX4_hasWalker 16 = .ok (.iconst 0, 1) := by decide +kernel
theorem dX4_hasWalker_17 : decode cX4_hasWalker 17 = .ok (.ireturn, 1) := by decide +kernel
theorem dX4_hasRoomForGait_0 : decode cX4_hasRoomForGait 0 = .ok (.aload_n 0, 1) := by decide +kernel
theorem dX4_hasRoomForGait_1 : decode cX4_hasRoomForGait 1 = .ok (.getfield 15, 3) := by decide +kernel
theorem dX4_hasRoomForGait_4 : decode cX4_hasRoomForGait 4 = .ok (.bipush 8, 2) := by decide +kernel
theorem dX4_hasRoomForGait_6 : decode cX4_hasRoomForGait 6 = .ok (.if_icmp .ge 7, 3) := by decide +kernel
theorem dX4_hasRoomForGait_9 : decode cX4_hasRoomForGait 9 = .ok (.iconst 1, 1) := by decide +kernel
theorem dX4_hasRoomForGait_10 : decode cX4_hasRoomForGait 10 = .ok (.goto 4, 3) := by decide +kernel
theorem dX4_hasRoomForGait_13 : decode cX4_hasRoomForGait 13 = .ok (.iconst 0, 1) := by decide +kernel
theorem dX4_hasRoomForGait_14 : decode cX4_hasRoomForGait 14 = .ok (.ireturn, 1) := by decide +kernel
theorem dX4_hasRoomForWalker_0 : decode cX4_hasRoomForWalker 0 = .ok (.aload_n 0, 1) := by decide +kernel
theorem dX4_hasRoomForWalker_1 : decode cX4_hasRoomForWalker 1 = .ok (.getfield 19, 3) := by decide +kernel
theorem dX4_hasRoomForWalker_4 : decode cX4_hasRoomForWalker 4 = .ok (.bipush 6, 2) := by decide +kernel
theorem dX4_hasRoomForWalker_6 : decode cX4_hasRoomForWalker 6 = .ok (.if_icmp .ge 7, 3) := by decide +kernel
theorem dX4_hasRoomForWalker_9 : decode cX4_hasRoomForWalker 9 = .ok (.iconst 1, 1) := by decide +kernel
theorem dX4_hasRoomForWalker_10 : decode cX4_hasRoomForWalker 10 = .ok (.goto 4, 3) := by decide +kernel
theorem dX4_hasRoomForWalker_13 : decode cX4_hasRoomForWalker 13 = .ok (.iconst 0, 1) := by decide +kernel
theorem dX4_hasRoomForWalker_14 : decode cX4_hasRoomForWalker 14 = .ok (.ireturn, 1) := by decide +kernel
theorem dX4_gaitBy_0 : decode cX4_gaitBy 0 = .ok (.iload_n 1, 1) := by decide +kernel
theorem dX4_gaitBy_1 : decode cX4_gaitBy 1 = .ok (.ifCond .lt 21, 3) := by decide +kernel
theorem dX4_gaitBy_4 : decode cX4_gaitBy 4 = .ok (.iload_n 1, 1) := by decide +kernel
theorem dX4_gaitBy_5 : decode cX4_gaitBy 5 = .ok (.aload_n 0, 1) := by decide +kernel
theorem dX4_gaitBy_6 : decode cX4_gaitBy 6 = .ok (.getfield 33, 3) := by decide +kernel
theorem dX4_gaitBy_9 : decode cX4_gaitBy 9 = .ok (.arraylength, 1) := by decide +kernel
theorem dX4_gaitBy_10 : decode cX4_gaitBy 10 = .ok (.if_icmp .ge 12, 3) := by decide +kernel
theorem dX4_gaitBy_13 : decode cX4_gaitBy 13 = .ok (.aload_n 0, 1) := by decide +kernel
theorem dX4_gaitBy_14 : decode cX4_gaitBy 14 = .ok (.getfield 33, 3) := by decide +kernel
theorem dX4_gaitBy_17 : decode cX4_gaitBy 17 = .ok (.iload_n 1, 1) := by decide +kernel
theorem dX4_gaitBy_18 : decode cX4_gaitBy 18 = .ok (.aaload, 1) := by decide +kernel
theorem dX4_gaitBy_19 : decode cX4_gaitBy 19 = .ok (.goto 4, 3) := by decide +kernel
theorem dX4_gaitBy_22 : decode cX4_gaitBy 22 = .ok (.aconst_null, 1) := by decide +kernel
theorem dX4_gaitBy_23 : decode cX4_gaitBy 23 = .ok (.astore_n 2, 1) := by decide +kernel
theorem dX4_gaitBy_24 : decode cX4_gaitBy 24 = .ok (.aload_n 2, 1) := by decide +kernel
theorem dX4_gaitBy_25 : decode cX4_gaitBy 25 = .ok (.ifnonnull 10, 3) := by decide +kernel
theorem dX4_gaitBy_28 : decode cX4_gaitBy 28 = .ok (.aload_n 0, 1) := by decide +kernel
theorem dX4_gaitBy_29 : decode cX4_gaitBy 29 = .ok (.getfield 44, 3) := by decide +kernel
theorem dX4_gaitBy_32 : decode cX4_gaitBy 32 = .ok (.goto 4, 3) := by decide +kernel
theorem dX4_gaitBy_35 : decode cX4_gaitBy 35 = .ok (.aload_n 2, 1) := by decide +kernel
theorem dX4_gaitBy_36 : decode cX4_gaitBy 36 = .ok (.areturn, 1) := by decide +kernel
theorem dX4_who_0 : decode cX4_who 0 = .ok (.iload_n 1, 1) := by decide +kernel
theorem dX4_who_1 : decode cX4_who 1 = .ok (.ifCond .lt 21, 3) := by decide +kernel
theorem dX4_who_4 : decode cX4_who 4 = .ok (.iload_n 1, 1) := by decide +kernel
theorem dX4_who_5 : decode cX4_who 5 = .ok (.aload_n 0, 1) := by decide +kernel
theorem dX4_who_6 : decode cX4_who 6 = .ok (.getfield 39, 3) := by decide +kernel
theorem dX4_who_9 : decode cX4_who 9 = .ok (.arraylength, 1) := by decide +kernel
theorem dX4_who_10 : decode cX4_who 10 = .ok (.if_icmp .ge 12, 3) := by decide +kernel
theorem dX4_who_13 : decode cX4_who 13 = .ok (.aload_n 0, 1) := by decide +kernel
theorem dX4_who_14 : decode cX4_who 14 = .ok (.getfield 39, 3) := by decide +kernel
theorem dX4_who_17 : decode cX4_who 17 = .ok (.iload_n 1, 1) := by decide +kernel
theorem dX4_who_18 : decode cX4_who 18 = .ok (.aaload, 1) := by decide +kernel
theorem dX4_who_19 : decode cX4_who 19 = .ok (.goto 4, 3) := by decide +kernel
theorem dX4_who_22 : decode cX4_who 22 = .ok (.aconst_null, 1) := by decide +kernel
theorem dX4_who_23 : decode cX4_who 23 = .ok (.astore_n 2, 1) := by decide +kernel
theorem dX4_who_24 : decode cX4_who 24 = .ok (.aload_n 2, 1) := by decide +kernel
theorem dX4_who_25 : decode cX4_who 25 = .ok (.ifnonnull 10, 3) := by decide +kernel
theorem dX4_who_28 : decode cX4_who 28 = .ok (.aload_n 0, 1) := by decide +kernel
theorem dX4_who_29 : decode cX4_who 29 = .ok (.getfield 49, 3) := by decide +kernel
theorem dX4_who_32 : decode cX4_who 32 = .ok (.goto 4, 3) := by decide +kernel
theorem dX4_who_35 : decode cX4_who 35 = .ok (.aload_n 2, 1) := by decide +kernel
theorem dX4_who_36 : decode cX4_who 36 = .ok (.areturn, 1) := by decide +kernel
theorem dX4_addGait_0 : decode cX4_addGait 0 = .ok (.aload_n 0, 1) := by decide +kernel
theorem dX4_addGait_1 : decode cX4_addGait 1 = .ok (.aload_n 0, 1) := by decide +kernel
theorem dX4_addGait_2 : decode cX4_addGait 2 = .ok (.getfield 15, 3) := by decide +kernel
theorem dX4_addGait_5 : decode cX4_addGait 5 = .ok (.invokevirtual 53, 3) := by decide +kernel
theorem dX4_addGait_8 : decode cX4_addGait 8 = .ok (.astore 4, 2) := by decide +kernel
theorem dX4_addGait_10 : decode cX4_addGait 10 = .ok (.aload 4, 2) := by decide +kernel
theorem dX4_addGait_12 : decode cX4_addGait 12 = .ok (.iload_n 1, 1) := by decide +kernel
theorem dX4_addGait_13 : decode cX4_addGait 13 = .ok (.putfield 72, 3) := by decide +kernel
theorem dX4_addGait_16 : decode cX4_addGait 16 = .ok (.aload 4, 2) := by decide +kernel
theorem dX4_addGait_18 : decode cX4_addGait 18 = .ok (.iload_n 2, 1) := by decide +kernel
theorem dX4_addGait_19 : decode cX4_addGait 19 = .ok (.putfield 75, 3) := by decide +kernel
theorem dX4_addGait_22 : decode cX4_addGait 22 = .ok (.aload 4, 2) := by decide +kernel
theorem dX4_addGait_24 : decode cX4_addGait 24 = .ok (.iload_n 3, 1) := by decide +kernel
theorem dX4_addGait_25 : decode cX4_addGait 25 = .ok (.putfield 78, 3) := by decide +kernel
theorem dX4_addGait_28 : decode cX4_addGait 28 = .ok (.aload_n 0, 1) := by decide +kernel
theorem dX4_addGait_29 : decode cX4_addGait 29 = .ok (.dup, 1) := by decide +kernel
theorem dX4_addGait_30 : decode cX4_addGait 30 = .ok (.getfield 15, 3) := by decide +kernel
theorem dX4_addGait_33 : decode cX4_addGait 33 = .ok (.iconst 1, 1) := by decide +kernel
theorem dX4_addGait_34 : decode cX4_addGait 34 = .ok (.iadd, 1) := by decide +kernel
theorem dX4_addGait_35 : decode cX4_addGait 35 = .ok (.putfield 15, 3) := by decide +kernel
theorem dX4_addGait_38 : decode cX4_addGait 38 = .ok (.aload_n 0, 1) := by decide +kernel
theorem dX4_addGait_39 : decode cX4_addGait 39 = .ok (.getfield 15, 3) := by decide +kernel
theorem dX4_addGait_42 : decode cX4_addGait 42 = .ok (.iconst 1, 1) := by decide +kernel
theorem dX4_addGait_43 : decode cX4_addGait 43 = .ok (.isub, 1) := by decide +kernel
theorem dX4_addGait_44 : decode cX4_addGait 44 = .ok (.ireturn, 1) := by decide +kernel
theorem dX4_addWalker_0 : decode cX4_addWalker 0 = .ok (.aload_n 0, 1) := by decide +kernel
theorem dX4_addWalker_1 : decode cX4_addWalker 1 = .ok (.aload_n 0, 1) := by decide +kernel
theorem dX4_addWalker_2 : decode cX4_addWalker 2 = .ok (.getfield 19, 3) := by decide +kernel
theorem dX4_addWalker_5 : decode cX4_addWalker 5 = .ok (.invokevirtual 65, 3) := by decide +kernel
theorem dX4_addWalker_8 : decode cX4_addWalker 8 = .ok (.astore 6, 2) := by decide +kernel
theorem dX4_addWalker_10 : decode cX4_addWalker 10 = .ok (.aload 6, 2) := by decide +kernel
theorem dX4_addWalker_12 : decode cX4_addWalker 12 = .ok (.iload_n 1, 1) := by decide +kernel
theorem dX4_addWalker_13 : decode cX4_addWalker 13 = .ok (.putfield 81, 3) := by decide +kernel
theorem dX4_addWalker_16 : decode cX4_addWalker 16 = .ok (.aload 6, 2) := by decide +kernel
theorem dX4_addWalker_18 : decode cX4_addWalker 18 = .ok (.iload_n 2, 1) := by decide +kernel
theorem dX4_addWalker_19 : decode cX4_addWalker 19 = .ok (.putfield 84, 3) := by decide +kernel
theorem dX4_addWalker_22 : decode cX4_addWalker 22 = .ok (.aload 6, 2) := by decide +kernel
theorem dX4_addWalker_24 : decode cX4_addWalker 24 = .ok (.iload_n 3, 1) := by decide +kernel
theorem dX4_addWalker_25 : decode cX4_addWalker 25 = .ok (.putfield 87, 3) := by decide +kernel
theorem dX4_addWalker_28 : decode cX4_addWalker 28 = .ok (.aload 6, 2) := by decide +kernel
theorem dX4_addWalker_30 : decode cX4_addWalker 30 = .ok (.iload 4, 2) := by decide +kernel
theorem dX4_addWalker_32 : decode cX4_addWalker 32 = .ok (.putfield 90, 3) := by decide +kernel
theorem dX4_addWalker_35 : decode cX4_addWalker 35 = .ok (.aload 6, 2) := by decide +kernel
theorem dX4_addWalker_37 : decode cX4_addWalker 37 = .ok (.iconst 0, 1) := by decide +kernel
theorem dX4_addWalker_38 : decode cX4_addWalker 38 = .ok (.putfield 93, 3) := by decide +kernel
theorem dX4_addWalker_41 : decode cX4_addWalker 41 = .ok (.aload 6, 2) := by decide +kernel
theorem dX4_addWalker_43 : decode cX4_addWalker 43 = .ok (.iconst 0, 1) := by decide +kernel
theorem dX4_addWalker_44 : decode cX4_addWalker 44 = .ok (.putfield 96, 3) := by decide +kernel
theorem dX4_addWalker_47 : decode cX4_addWalker 47 = .ok (.aload 6, 2) := by decide +kernel
theorem dX4_addWalker_49 : decode cX4_addWalker 49 = .ok (.iload 5, 2) := by decide +kernel
theorem dX4_addWalker_51 : decode cX4_addWalker 51 = .ok (.putfield 99, 3) := by decide +kernel
theorem dX4_addWalker_54 : decode cX4_addWalker 54 = .ok (.aload_n 0, 1) := by decide +kernel
theorem dX4_addWalker_55 : decode cX4_addWalker 55 = .ok (.dup, 1) := by decide +kernel
theorem dX4_addWalker_56 : decode cX4_addWalker 56 = .ok (.getfield 19, 3) := by decide +kernel
theorem dX4_addWalker_59 : decode cX4_addWalker 59 = .ok (.iconst 1, 1) := by decide +kernel
theorem dX4_addWalker_60 : decode cX4_addWalker 60 = .ok (.iadd, 1) := by decide +kernel
theorem dX4_addWalker_61 : decode cX4_addWalker 61 = .ok (.putfield 19, 3) := by decide +kernel
theorem dX4_addWalker_64 : decode cX4_addWalker 64 = .ok (.aload_n 0, 1) := by decide +kernel
theorem dX4_addWalker_65 : decode cX4_addWalker 65 = .ok (.getfield 19, 3) := by decide +kernel
theorem dX4_addWalker_68 : decode cX4_addWalker 68 = .ok (.iconst 1, 1) := by decide +kernel
theorem dX4_addWalker_69 : decode cX4_addWalker 69 = .ok (.isub, 1) := by decide +kernel
theorem dX4_addWalker_70 : decode cX4_addWalker 70 = .ok (.ireturn, 1) := by decide +kernel
theorem dX4_beginOtherwise_0 : decode cX4_beginOtherwise 0 = .ok (.aload_n 0, 1) := by decide +kernel
theorem dX4_beginOtherwise_1 : decode cX4_beginOtherwise 1 = .ok (.iload_n 1, 1) := by decide +kernel
theorem dX4_beginOtherwise_2 : decode cX4_beginOtherwise 2 = .ok (.invokevirtual 65, 3) := by decide +kernel
theorem dX4_beginOtherwise_5 : decode cX4_beginOtherwise 5 = .ok (.astore_n 3, 1) := by decide +kernel
theorem dX4_beginOtherwise_6 : decode cX4_beginOtherwise 6 = .ok (.aload_n 0, 1) := by decide +kernel
theorem dX4_beginOtherwise_7 : decode cX4_beginOtherwise 7 = .ok (.iload_n 2, 1) := by decide +kernel
theorem dX4_beginOtherwise_8 : decode cX4_beginOtherwise 8 = .ok (.invokevirtual 53, 3) := by decide +kernel
theorem dX4_beginOtherwise_11 : decode cX4_beginOtherwise 11 = .ok (.getfield 72, 3) := by decide +kernel
theorem dX4_beginOtherwise_14 : decode cX4_beginOtherwise 14 = .ok (.istore 4, 2) := by decide +kernel
theorem dX4_beginOtherwise_16 : decode cX4_beginOtherwise 16 = .ok (.aload_n 3, 1) := by decide +kernel
theorem dX4_beginOtherwise_17 : decode cX4_beginOtherwise 17 = .ok (.iload_n 2, 1) := by decide +kernel
theorem dX4_beginOtherwise_18 : decode cX4_beginOtherwise 18 = .ok (.putfield 90, 3) := by decide +kernel
theorem dX4_beginOtherwise_21 : decode cX4_beginOtherwise 21 = .ok (.aload_n 3, 1) := by decide +kernel
theorem dX4_beginOtherwise_22 : decode cX4_beginOtherwise 22 = .ok (.iload 4, 2) := by decide +kernel
theorem dX4_beginOtherwise_24 : decode cX4_beginOtherwise 24 = .ok (.ifCond .le 13, 3) := by decide +kernel
theorem dX4_beginOtherwise_27 : decode cX4_beginOtherwise 27 = .ok (.aload_n 3, 1) := by decide +kernel
theorem dX4_beginOtherwise_28 : decode cX4_beginOtherwise 28 = .ok (.getfield 93, 3) := by decide +kernel
theorem dX4_beginOtherwise_31 : decode cX4_beginOtherwise 31 = .ok (.iload 4, 2) := by decide +kernel
theorem dX4_beginOtherwise_33 : decode cX4_beginOtherwise 33 = .ok (.irem, 1) := by decide +kernel
theorem dX4_beginOtherwise_34 : decode cX4_beginOtherwise 34 = .ok (.goto 4, 3) := by decide +kernel
theorem dX4_beginOtherwise_37 : decode cX4_beginOtherwise 37 = .ok (.iconst 0, 1) := by decide +kernel
theorem dX4_beginOtherwise_38 : decode cX4_beginOtherwise 38 = .ok (.putfield 93, 3) := by decide +kernel
theorem dX4_beginOtherwise_41 : decode cX4_beginOtherwise 41 = .ok (.return_, 1) := by decide +kernel
theorem dX4_isWalled_0 : decode cX4_isWalled 0 = .ok (.aload_n 0, 1) := by decide +kernel
theorem dX4_isWalled_1 : decode cX4_isWalled 1 = .ok (.getfield 9, 3) := by decide +kernel
theorem dX4_isWalled_4 : decode cX4_isWalled 4 = .ok (.iload_n 1, 1) := by decide +kernel
theorem dX4_isWalled_5 : decode cX4_isWalled 5 = .ok (.lushr, 1) := by decide +kernel
theorem dX4_isWalled_6 : decode cX4_isWalled 6 = .ok (.lconst 1, 1) := by decide +kernel
theorem dX4_isWalled_7 : decode cX4_isWalled 7 = .ok (.land, 1) := by decide +kernel
theorem dX4_isWalled_8 : decode cX4_isWalled 8 = .ok (.lconst 1, 1) := by decide +kernel
theorem dX4_isWalled_9 : decode cX4_isWalled 9 = .ok (.lcmp, 1) := by decide +kernel
theorem dX4_isWalled_10 : decode cX4_isWalled 10 = .ok (.ifCond .ne 7, 3) := by decide +kernel
theorem dX4_isWalled_13 : decode cX4_isWalled 13 = .ok (.iconst 1, 1) := by decide +kernel
theorem dX4_isWalled_14 : decode cX4_isWalled 14 = .ok (.goto 4, 3) := by decide +kernel
theorem dX4_isWalled_17 : decode cX4_isWalled 17 = .ok (.iconst 0, 1) := by decide +kernel
theorem dX4_isWalled_18 : decode cX4_isWalled 18 = .ok (.ireturn, 1) := by decide +kernel
theorem dX4_putWall_0 : decode cX4_putWall 0 = .ok (.lconst 1, 1) := by decide +kernel
theorem dX4_putWall_1 : decode cX4_putWall 1 = .ok (.iload_n 1, 1) := by decide +kernel
theorem dX4_putWall_2 : decode cX4_putWall 2 = .ok (.lshl, 1) := by decide +kernel
theorem dX4_putWall_3 : decode cX4_putWall 3 = .ok (.lstore_n 3, 1) := by decide +kernel
theorem dX4_putWall_4 : decode cX4_putWall 4 = .ok (.aload_n 0, 1) := by decide +kernel
theorem dX4_putWall_5 : decode cX4_putWall 5 = .ok (.iload_n 2, 1) := by decide +kernel
theorem dX4_putWall_6 : decode cX4_putWall 6 = .ok (.ifCond .eq 12, 3) := by decide +kernel
theorem dX4_putWall_9 : decode cX4_putWall 9 = .ok (.aload_n 0, 1) := by decide +kernel
theorem dX4_putWall_10 : decode cX4_putWall 10 = .ok (.getfield 9, 3) := by decide +kernel
theorem dX4_putWall_13 : decode cX4_putWall 13 = .ok (.lload_n 3, 1) := by decide +kernel
theorem dX4_putWall_14 : decode cX4_putWall 14 = .ok (.lor, 1) := by decide +kernel
theorem dX4_putWall_15 : decode cX4_putWall 15 = .ok (.goto 13, 3) := by decide +kernel
theorem dX4_putWall_18 : decode cX4_putWall 18 = .ok (.aload_n 0, 1) := by decide +kernel
theorem dX4_putWall_19 : decode cX4_putWall 19 = .ok (.getfield 9, 3) := by decide +kernel
theorem dX4_putWall_22 : decode cX4_putWall 22 = .ok (.lload_n 3, 1) := by decide +kernel
theorem dX4_putWall_23 : decode cX4_putWall 23 = .ok (.ldc2_w 102, 3) := by decide +kernel
theorem dX4_putWall_26 : decode cX4_putWall 26 = .ok (.lxor, 1) := by decide +kernel
theorem dX4_putWall_27 : decode cX4_putWall 27 = .ok (.land, 1) := by decide +kernel
theorem dX4_putWall_28 : decode cX4_putWall 28 = .ok (.putfield 9, 3) := by decide +kernel
theorem dX4_putWall_31 : decode cX4_putWall 31 = .ok (.return_, 1) := by decide +kernel
theorem dX4_hasSomebodyAt_0 : decode cX4_hasSomebodyAt 0 = .ok (.iconst 0, 1) := by decide +kernel
theorem dX4_hasSomebodyAt_1 : decode cX4_hasSomebodyAt 1 = .ok (.istore_n 2, 1) := by decide +kernel
theorem dX4_hasSomebodyAt_2 : decode cX4_hasSomebodyAt 2 = .ok (.iload_n 2, 1) := by decide +kernel
theorem dX4_hasSomebodyAt_3 : decode cX4_hasSomebodyAt 3 = .ok (.aload_n 0, 1) := by decide +kernel
theorem dX4_hasSomebodyAt_4 : decode cX4_hasSomebodyAt 4 = .ok (.getfield 19, 3) := by decide +kernel
theorem dX4_hasSomebodyAt_7 : decode cX4_hasSomebodyAt 7 = .ok (.if_icmp .ge 23, 3) := by decide +kernel
theorem dX4_hasSomebodyAt_10 : decode cX4_hasSomebodyAt 10 = .ok (.aload_n 0, 1) := by decide +kernel
theorem dX4_hasSomebodyAt_11 : decode cX4_hasSomebodyAt 11 = .ok (.iload_n 2, 1) := by decide +kernel
theorem dX4_hasSomebodyAt_12 : decode cX4_hasSomebodyAt 12 = .ok (.invokevirtual 65, 3) := by decide +kernel
theorem dX4_hasSomebodyAt_15 : decode cX4_hasSomebodyAt 15 = .ok (.getfield 84, 3) := by decide +kernel
theorem dX4_hasSomebodyAt_18 : decode cX4_hasSomebodyAt 18 = .ok (.iload_n 1, 1) := by decide +kernel
theorem dX4_hasSomebodyAt_19 : decode cX4_hasSomebodyAt 19 = .ok (.if_icmp .ne 5, 3) := by decide +kernel
theorem dX4_hasSomebodyAt_22 : decode cX4_hasSomebodyAt 22 = .ok (.iconst 1, 1) := by decide +kernel
theorem dX4_hasSomebodyAt_23 : decode cX4_hasSomebodyAt 23 = .ok (.ireturn, 1) := by decide +kernel
theorem dX4_hasSomebodyAt_24 : decode cX4_hasSomebodyAt 24 = .ok (.iinc 2 1, 3) := by decide +kernel
theorem dX4_hasSomebodyAt_27 : decode cX4_hasSomebodyAt 27 = .ok (.goto (-25), 3) := by decide +kernel
theorem dX4_hasSomebodyAt_30 : decode cX4_hasSomebodyAt 30 = .ok (.iconst 0, 1) := by decide +kernel
theorem dX4_hasSomebodyAt_31 : decode cX4_hasSomebodyAt 31 = .ok (.ireturn, 1) := by decide +kernel
theorem dX4_hasSomebodySo_0 : decode cX4_hasSomebodySo 0 = .ok (.iconst 0, 1) := by decide +kernel
theorem dX4_hasSomebodySo_1 : decode cX4_hasSomebodySo 1 = .ok (.istore_n 3, 1) := by decide +kernel
theorem dX4_hasSomebodySo_2 : decode cX4_hasSomebodySo 2 = .ok (.iload_n 3, 1) := by decide +kernel
theorem dX4_hasSomebodySo_3 : decode cX4_hasSomebodySo 3 = .ok (.aload_n 0, 1) := by decide +kernel
theorem dX4_hasSomebodySo_4 : decode cX4_hasSomebodySo 4 = .ok (.getfield 19, 3) := by decide +kernel
theorem dX4_hasSomebodySo_7 : decode cX4_hasSomebodySo 7 = .ok (.if_icmp .ge 35, 3) := by decide +kernel
theorem dX4_hasSomebodySo_10 : decode cX4_hasSomebodySo 10 = .ok (.aload_n 0, 1) := by decide +kernel
theorem dX4_hasSomebodySo_11 : decode cX4_hasSomebodySo 11 = .ok (.iload_n 3, 1) := by decide +kernel
theorem dX4_hasSomebodySo_12 : decode cX4_hasSomebodySo 12 = .ok (.invokevirtual 65, 3) := by decide +kernel
theorem dX4_hasSomebodySo_15 : decode cX4_hasSomebodySo 15 = .ok (.getfield 84, 3) := by decide +kernel
theorem dX4_hasSomebodySo_18 : decode cX4_hasSomebodySo 18 = .ok (.iload_n 1, 1) := by decide +kernel
theorem dX4_hasSomebodySo_19 : decode cX4_hasSomebodySo 19 = .ok (.if_icmp .ne 17, 3) := by decide +kernel
theorem dX4_hasSomebodySo_22 : decode cX4_hasSomebodySo 22 = .ok (.aload_n 0, 1) := by decide +kernel
theorem dX4_hasSomebodySo_23 : decode cX4_hasSomebodySo 23 = .ok (.iload_n 3, 1) := by decide +kernel
theorem dX4_hasSomebodySo_24 : decode cX4_hasSomebodySo 24 = .ok (.invokevirtual 65, 3) := by decide +kernel
theorem dX4_hasSomebodySo_27 : decode cX4_hasSomebodySo 27 = .ok (.getfield 90, 3) := by decide +kernel
theorem dX4_hasSomebodySo_30 : decode cX4_hasSomebodySo 30 = .ok (.iload_n 2, 1) := by decide +kernel
theorem dX4_hasSomebodySo_31 : decode cX4_hasSomebodySo 31 = .ok (.if_icmp .ne 5, 3) := by decide +kernel
theorem dX4_hasSomebodySo_34 : decode cX4_hasSomebodySo 34 = .ok (.iconst 1, 1) := by decide +kernel
theorem dX4_hasSomebodySo_35 : decode cX4_hasSomebodySo 35 = .ok (.ireturn, 1) := by decide +kernel
theorem dX4_hasSomebodySo_36 : decode cX4_hasSomebodySo 36 = .ok (.iinc 3 1, 3) := by decide +kernel
theorem dX4_hasSomebodySo_39 : decode cX4_hasSomebodySo 39 = .ok (.goto (-37), 3) := by decide +kernel
theorem dX4_hasSomebodySo_42 : decode cX4_hasSomebodySo 42 = .ok (.iconst 0, 1) := by decide +kernel
theorem dX4_hasSomebodySo_43 : decode cX4_hasSomebodySo 43 = .ok (.ireturn, 1) := by decide +kernel
theorem dX4_isFree_0 : decode cX4_isFree 0 = .ok (.aload_n 0, 1) := by decide +kernel
theorem dX4_isFree_1 : decode cX4_isFree 1 = .ok (.iload_n 1, 1) := by decide +kernel
theorem dX4_isFree_2 : decode cX4_isFree 2 = .ok (.invokevirtual 104, 3) := by decide +kernel
theorem dX4_isFree_5 : decode cX4_isFree 5 = .ok (.ifCond .ne 15, 3) := by decide +kernel
theorem dX4_isFree_8 : decode cX4_isFree 8 = .ok (.aload_n 0, 1) := by decide +kernel
theorem dX4_isFree_9 : decode cX4_isFree 9 = .ok (.iload_n 1, 1) := by decide +kernel
theorem dX4_isFree_10 : decode cX4_isFree 10 = .ok (.invokevirtual 108, 3) := by decide +kernel
theorem dX4_isFree_13 : decode cX4_isFree 13 = .ok (.ifCond .ne 7, 3) := by decide +kernel
theorem dX4_isFree_16 : decode cX4_isFree 16 = .ok (.iconst 1, 1) := by decide +kernel
theorem dX4_isFree_17 : decode cX4_isFree 17 = .ok (.goto 4, 3) := by decide +kernel
theorem dX4_isFree_20 : decode cX4_isFree 20 = .ok (.iconst 0, 1) := by decide +kernel
theorem dX4_isFree_21 : decode cX4_isFree 21 = .ok (.ireturn, 1) := by decide +kernel
theorem dX4_havers_0 : decode cX4_havers 0 = .ok (.iconst 0, 1) := by decide +kernel
theorem dX4_havers_1 : decode cX4_havers 1 = .ok (.istore_n 2, 1) := by decide +kernel
theorem dX4_havers_2 : decode cX4_havers 2 = .ok (.iconst 0, 1) := by decide +kernel
theorem dX4_havers_3 : decode cX4_havers 3 = .ok (.istore_n 3, 1) := by decide +kernel
theorem dX4_havers_4 : decode cX4_havers 4 = .ok (.iload_n 3, 1) := by decide +kernel
theorem dX4_havers_5 : decode cX4_havers 5 = .ok (.aload_n 0, 1) := by decide +kernel
theorem dX4_havers_6 : decode cX4_havers 6 = .ok (.getfield 19, 3) := by decide +kernel
theorem dX4_havers_9 : decode cX4_havers 9 = .ok (.if_icmp .ge 27, 3) := by decide +kernel
theorem dX4_havers_12 : decode cX4_havers 12 = .ok (.aload_n 0, 1) := by decide +kernel
theorem dX4_havers_13 : decode cX4_havers 13 = .ok (.iload_n 3, 1) := by decide +kernel
theorem dX4_havers_14 : decode cX4_havers 14 = .ok (.invokevirtual 65, 3) := by decide +kernel
theorem dX4_havers_17 : decode cX4_havers 17 = .ok (.getfield 90, 3) := by decide +kernel
theorem dX4_havers_20 : decode cX4_havers 20 = .ok (.iload_n 1, 1) := by decide +kernel
theorem dX4_havers_21 : decode cX4_havers 21 = .ok (.if_icmp .ne 9, 3) := by decide +kernel
theorem dX4_havers_24 : decode cX4_havers 24 = .ok (.iload_n 2, 1) := by decide +kernel
theorem dX4_havers_25 : decode cX4_havers 25 = .ok (.iconst 1, 1) := by decide +kernel
theorem dX4_havers_26 : decode cX4_havers 26 = .ok (.iload_n 3, 1) := by decide +kernel
theorem dX4_havers_27 : decode cX4_havers 27 = .ok (.ishl, 1) := by decide +kernel
theorem dX4_havers_28 : decode cX4_havers 28 = .ok (.ior, 1) := by decide +kernel
theorem dX4_havers_29 : decode cX4_havers 29 = .ok (.istore_n 2, 1) := by decide +kernel
theorem dX4_havers_30 : decode cX4_havers 30 = .ok (.iinc 3 1, 3) := by decide +kernel
theorem dX4_havers_33 : decode cX4_havers 33 = .ok (.goto (-29), 3) := by decide +kernel
theorem dX4_havers_36 : decode cX4_havers 36 = .ok (.iload_n 2, 1) := by decide +kernel
theorem dX4_havers_37 : decode cX4_havers 37 = .ok (.ireturn, 1) := by decide +kernel
theorem dX4_haveAll_0 : decode cX4_haveAll 0 = .ok (.iconst 0, 1) := by decide +kernel
theorem dX4_haveAll_1 : decode cX4_haveAll 1 = .ok (.istore_n 2, 1) := by decide +kernel
theorem dX4_haveAll_2 : decode cX4_haveAll 2 = .ok (.iload_n 2, 1) := by decide +kernel
theorem dX4_haveAll_3 : decode cX4_haveAll 3 = .ok (.aload_n 0, 1) := by decide +kernel
theorem dX4_haveAll_4 : decode cX4_haveAll 4 = .ok (.getfield 19, 3) := by decide +kernel
theorem dX4_haveAll_7 : decode cX4_haveAll 7 = .ok (.if_icmp .ge 23, 3) := by decide +kernel
theorem dX4_haveAll_10 : decode cX4_haveAll 10 = .ok (.aload_n 0, 1) := by decide +kernel
theorem dX4_haveAll_11 : decode cX4_haveAll 11 = .ok (.iload_n 2, 1) := by decide +kernel
theorem dX4_haveAll_12 : decode cX4_haveAll 12 = .ok (.invokevirtual 65, 3) := by decide +kernel
theorem dX4_haveAll_15 : decode cX4_haveAll 15 = .ok (.getfield 90, 3) := by decide +kernel
theorem dX4_haveAll_18 : decode cX4_haveAll 18 = .ok (.iload_n 1, 1) := by decide +kernel
theorem dX4_haveAll_19 : decode cX4_haveAll 19 = .ok (.if_icmp .eq 5, 3) := by decide +kernel
theorem dX4_haveAll_22 : decode cX4_haveAll 22 = .ok (.iconst 0, 1) := by decide +kernel
theorem dX4_haveAll_23 : decode cX4_haveAll 23 = .ok (.ireturn, 1) := by decide +kernel
theorem dX4_haveAll_24 : decode cX4_haveAll 24 = .ok (.iinc 2 1, 3) := by decide +kernel
theorem dX4_haveAll_27 : decode cX4_haveAll 27 = .ok (.goto (-25), 3) := by decide +kernel
theorem dX4_haveAll_30 : decode cX4_haveAll 30 = .ok (.iconst 1, 1) := by decide +kernel
theorem dX4_haveAll_31 : decode cX4_haveAll 31 = .ok (.ireturn, 1) := by decide +kernel
theorem dX4_firstWith_0 : decode cX4_firstWith 0 = .ok (.iconst 0, 1) := by decide +kernel
theorem dX4_firstWith_1 : decode cX4_firstWith 1 = .ok (.istore_n 2, 1) := by decide +kernel
theorem dX4_firstWith_2 : decode cX4_firstWith 2 = .ok (.iload_n 2, 1) := by decide +kernel
theorem dX4_firstWith_3 : decode cX4_firstWith 3 = .ok (.aload_n 0, 1) := by decide +kernel
theorem dX4_firstWith_4 : decode cX4_firstWith 4 = .ok (.getfield 19, 3) := by decide +kernel
theorem dX4_firstWith_7 : decode cX4_firstWith 7 = .ok (.if_icmp .ge 23, 3) := by decide +kernel
theorem dX4_firstWith_10 : decode cX4_firstWith 10 = .ok (.aload_n 0, 1) := by decide +kernel
theorem dX4_firstWith_11 : decode cX4_firstWith 11 = .ok (.iload_n 2, 1) := by decide +kernel
theorem dX4_firstWith_12 : decode cX4_firstWith 12 = .ok (.invokevirtual 65, 3) := by decide +kernel
theorem dX4_firstWith_15 : decode cX4_firstWith 15 = .ok (.getfield 90, 3) := by decide +kernel
theorem dX4_firstWith_18 : decode cX4_firstWith 18 = .ok (.iload_n 1, 1) := by decide +kernel
theorem dX4_firstWith_19 : decode cX4_firstWith 19 = .ok (.if_icmp .ne 5, 3) := by decide +kernel
theorem dX4_firstWith_22 : decode cX4_firstWith 22 = .ok (.iload_n 2, 1) := by decide +kernel
theorem dX4_firstWith_23 : decode cX4_firstWith 23 = .ok (.ireturn, 1) := by decide +kernel
theorem dX4_firstWith_24 : decode cX4_firstWith 24 = .ok (.iinc 2 1, 3) := by decide +kernel
theorem dX4_firstWith_27 : decode cX4_firstWith 27 = .ok (.goto (-25), 3) := by decide +kernel
theorem dX4_firstWith_30 : decode cX4_firstWith 30 = .ok (.iconst (-1), 1) := by decide +kernel
theorem dX4_firstWith_31 : decode cX4_firstWith 31 = .ok (.ireturn, 1) := by decide +kernel
theorem dX4_isBarred_0 : decode cX4_isBarred 0 = .ok (.iconst 0, 1) := by decide +kernel
theorem dX4_isBarred_1 : decode cX4_isBarred 1 = .ok (.istore_n 2, 1) := by decide +kernel
theorem dX4_isBarred_2 : decode cX4_isBarred 2 = .ok (.iload_n 2, 1) := by decide +kernel
theorem dX4_isBarred_3 : decode cX4_isBarred 3 = .ok (.aload_n 0, 1) := by decide +kernel
theorem dX4_isBarred_4 : decode cX4_isBarred 4 = .ok (.getfield 19, 3) := by decide +kernel
theorem dX4_isBarred_7 : decode cX4_isBarred 7 = .ok (.if_icmp .ge 35, 3) := by decide +kernel
theorem dX4_isBarred_10 : decode cX4_isBarred 10 = .ok (.aload_n 0, 1) := by decide +kernel
theorem dX4_isBarred_11 : decode cX4_isBarred 11 = .ok (.iload_n 2, 1) := by decide +kernel
theorem dX4_isBarred_12 : decode cX4_isBarred 12 = .ok (.invokevirtual 65, 3) := by decide +kernel
theorem dX4_isBarred_15 : decode cX4_isBarred 15 = .ok (.getfield 90, 3) := by decide +kernel
theorem dX4_isBarred_18 : decode cX4_isBarred 18 = .ok (.iload_n 1, 1) := by decide +kernel
theorem dX4_isBarred_19 : decode cX4_isBarred 19 = .ok (.if_icmp .eq 17, 3) := by decide +kernel
theorem dX4_isBarred_22 : decode cX4_isBarred 22 = .ok (.aload_n 0, 1) := by decide +kernel
theorem dX4_isBarred_23 : decode cX4_isBarred 23 = .ok (.iload_n 2, 1) := by decide +kernel
theorem dX4_isBarred_24 : decode cX4_isBarred 24 = .ok (.invokevirtual 65, 3) := by decide +kernel
theorem dX4_isBarred_27 : decode cX4_isBarred 27 = .ok (.iload_n 1, 1) := by decide +kernel
theorem dX4_isBarred_28 : decode cX4_isBarred 28 = .ok (.invokevirtual 111, 3) := by decide +kernel
theorem dX4_isBarred_31 : decode cX4_isBarred 31 = .ok (.ifCond .ne 5, 3) := by decide +kernel
theorem dX4_isBarred_34 : decode cX4_isBarred 34 = .ok (.iconst 1, 1) := by decide +kernel
theorem dX4_isBarred_35 : decode cX4_isBarred 35 = .ok (.ireturn, 1) := by decide +kernel
theorem dX4_isBarred_36 : decode cX4_isBarred 36 = .ok (.iinc 2 1, 3) := by decide +kernel
theorem dX4_isBarred_39 : decode cX4_isBarred 39 = .ok (.goto (-37), 3) := by decide +kernel
theorem dX4_isBarred_42 : decode cX4_isBarred 42 = .ok (.iconst 0, 1) := by decide +kernel
theorem dX4_isBarred_43 : decode cX4_isBarred 43 = .ok (.ireturn, 1) := by decide +kernel
theorem dX4_packed_0 : decode cX4_packed 0 = .ok (.lconst 0, 1) := by decide +kernel
theorem dX4_packed_1 : decode cX4_packed 1 = .ok (.lstore_n 2, 1) := by decide +kernel
theorem dX4_packed_2 : decode cX4_packed 2 = .ok (.iload_n 1, 1) := by decide +kernel
theorem dX4_packed_3 : decode cX4_packed 3 = .ok (.istore 4, 2) := by decide +kernel
theorem dX4_packed_5 : decode cX4_packed 5 = .ok (.iload 4, 2) := by decide +kernel
theorem dX4_packed_7 : decode cX4_packed 7 = .ok (.iload_n 1, 1) := by decide +kernel
theorem dX4_packed_8 : decode cX4_packed 8 = .ok (.iconst 3, 1) := by decide +kernel
theorem dX4_packed_9 : decode cX4_packed 9 = .ok (.iadd, 1) := by decide +kernel
theorem dX4_packed_10 : decode cX4_packed 10 = .ok (.if_icmp .ge 38, 3) := by decide +kernel
theorem dX4_packed_13 : decode cX4_packed 13 = .ok (.lload_n 2, 1) := by decide +kernel
theorem dX4_packed_14 : decode cX4_packed 14 = .ok (.bipush 15, 2) := by decide +kernel
theorem dX4_packed_16 : decode cX4_packed 16 = .ok (.lshl, 1) := by decide +kernel
theorem dX4_packed_17 : decode cX4_packed 17 = .ok (.iload 4, 2) := by decide +kernel
theorem dX4_packed_19 : decode cX4_packed 19 = .ok (.aload_n 0, 1) := by decide +kernel
theorem dX4_packed_20 : decode cX4_packed 20 = .ok (.getfield 19, 3) := by decide +kernel
theorem dX4_packed_23 : decode cX4_packed 23 = .ok (.if_icmp .ge 15, 3) := by decide +kernel
theorem dX4_packed_26 : decode cX4_packed 26 = .ok (.aload_n 0, 1) := by decide +kernel
theorem dX4_packed_27 : decode cX4_packed 27 = .ok (.iload 4, 2) := by decide +kernel
theorem dX4_packed_29 : decode cX4_packed 29 = .ok (.invokevirtual 65, 3) := by decide +kernel
theorem dX4_packed_32 : decode cX4_packed 32 = .ok (.invokevirtual 114, 3) := by decide +kernel
theorem dX4_packed_35 : decode cX4_packed 35 = .ok (.goto 4, 3) := by decide +kernel
theorem dX4_packed_38 : decode cX4_packed 38 = .ok (.iconst 0, 1) := by decide +kernel
theorem dX4_packed_39 : decode cX4_packed 39 = .ok (.i2l, 1) := by decide +kernel
theorem dX4_packed_40 : decode cX4_packed 40 = .ok (.lor, 1) := by decide +kernel
theorem dX4_packed_41 : decode cX4_packed 41 = .ok (.lstore_n 2, 1) := by decide +kernel
theorem dX4_packed_42 : decode cX4_packed 42 = .ok (.iinc 4 1, 3) := by decide +kernel
theorem dX4_packed_45 : decode cX4_packed 45 = .ok (.goto (-40), 3) := by decide +kernel
theorem dX4_packed_48 : decode cX4_packed 48 = .ok (.lload_n 2, 1) := by decide +kernel
theorem dX4_packed_49 : decode cX4_packed 49 = .ok (.lreturn, 1) := by decide +kernel
theorem dX4_said_0 : decode cX4_said 0 = .ok (.aload_n 0, 1) := by decide +kernel
theorem dX4_said_1 : decode cX4_said 1 = .ok (.iload_n 1, 1) := by decide +kernel
theorem dX4_said_2 : decode cX4_said 2 = .ok (.invokevirtual 65, 3) := by decide +kernel
theorem dX4_said_5 : decode cX4_said 5 = .ok (.astore_n 3, 1) := by decide +kernel
theorem dX4_said_6 : decode cX4_said 6 = .ok (.iload_n 2, 1) := by decide +kernel
theorem dX4_said_7 : decode cX4_said 7 = .ok (.tableswitch 87 1 6 #[37, 51, 58, 63, 68, 75], 37) := by decide +kernel
theorem dX4_said_44 : decode cX4_said 44 = .ok (.aload_n 0, 1) := by decide +kernel
theorem dX4_said_45 : decode cX4_said 45 = .ok (.aload_n 3, 1) := by decide +kernel
theorem dX4_said_46 : decode cX4_said 46 = .ok (.getfield 90, 3) := by decide +kernel
theorem dX4_said_49 : decode cX4_said 49 = .ok (.invokevirtual 118, 3) := by decide +kernel
theorem dX4_said_52 : decode cX4_said 52 = .ok (.invokestatic 122, 3) := by decide +kernel
theorem dX4_said_55 : decode cX4_said 55 = .ok (.iconst 1, 1) := by decide +kernel
theorem dX4_said_56 : decode cX4_said 56 = .ok (.isub, 1) := by decide +kernel
theorem dX4_said_57 : decode cX4_said 57 = .ok (.ireturn, 1) := by decide +kernel
theorem dX4_said_58 : decode cX4_said 58 = .ok (.aload_n 0, 1) := by decide +kernel
theorem dX4_said_59 : decode cX4_said 59 = .ok (.iload_n 1, 1) := by decide +kernel
theorem dX4_said_60 : decode cX4_said 60 = .ok (.iconst 0, 1) := by decide +kernel
theorem dX4_said_61 : decode cX4_said 61 = .ok (.invokevirtual 127, 3) := by decide +kernel
theorem dX4_said_64 : decode cX4_said 64 = .ok (.ireturn, 1) := by decide +kernel
theorem dX4_said_65 : decode cX4_said 65 = .ok (.aload_n 3, 1) := by decide +kernel
theorem dX4_said_66 : decode cX4_said 66 = .ok (.getfield 93, 3) := by decide +kernel
theorem dX4_said_69 : decode cX4_said 69 = .ok (.ireturn, 1) := by decide +kernel
theorem dX4_said_70 : decode cX4_said 70 = .ok (.aload_n 3, 1) := by decide +kernel
theorem dX4_said_71 : decode cX4_said 71 = .ok (.getfield 96, 3) := by decide +kernel
theorem dX4_said_74 : decode cX4_said 74 = .ok (.ireturn, 1) := by decide +kernel
theorem dX4_said_75 : decode cX4_said 75 = .ok (.aload_n 0, 1) := by decide +kernel
theorem dX4_said_76 : decode cX4_said 76 = .ok (.iload_n 1, 1) := by decide +kernel
theorem dX4_said_77 : decode cX4_said 77 = .ok (.iconst 1, 1) := by decide +kernel
theorem dX4_said_78 : decode cX4_said 78 = .ok (.invokevirtual 127, 3) := by decide +kernel
theorem dX4_said_81 : decode cX4_said 81 = .ok (.ireturn, 1) := by decide +kernel
theorem dX4_said_82 : decode cX4_said 82 = .ok (.aload_n 0, 1) := by decide +kernel
theorem dX4_said_83 : decode cX4_said 83 = .ok (.getfield 15, 3) := by decide +kernel
theorem dX4_said_86 : decode cX4_said 86 = .ok (.iconst 1, 1) := by decide +kernel
theorem dX4_said_87 : decode cX4_said 87 = .ok (.isub, 1) := by decide +kernel
theorem dX4_said_88 : decode cX4_said 88 = .ok (.aload_n 3, 1) := by decide +kernel
theorem dX4_said_89 : decode cX4_said 89 = .ok (.getfield 90, 3) := by decide +kernel
theorem dX4_said_92 : decode cX4_said 92 = .ok (.isub, 1) := by decide +kernel
theorem dX4_said_93 : decode cX4_said 93 = .ok (.ireturn, 1) := by decide +kernel
theorem dX4_said_94 : decode cX4_said 94 = .ok (.aload_n 3, 1) := by decide +kernel
theorem dX4_said_95 : decode cX4_said 95 = .ok (.getfield 90, 3) := by decide +kernel
theorem dX4_said_98 : decode cX4_said 98 = .ok (.ireturn, 1) := by decide +kernel
theorem dX4_countOthers_0 : decode cX4_countOthers 0 = .ok (.aload_n 0, 1) := by decide +kernel
theorem dX4_countOthers_1 : decode cX4_countOthers 1 = .ok (.iload_n 1, 1) := by decide +kernel
theorem dX4_countOthers_2 : decode cX4_countOthers 2 = .ok (.invokevirtual 65, 3) := by decide +kernel
theorem dX4_countOthers_5 : decode cX4_countOthers 5 = .ok (.astore_n 3, 1) := by decide +kernel
theorem dX4_countOthers_6 : decode cX4_countOthers 6 = .ok (.iconst 0, 1) := by decide +kernel
theorem dX4_countOthers_7 : decode cX4_countOthers 7 = .ok (.istore 4, 2) := by decide +kernel
theorem dX4_countOthers_9 : decode cX4_countOthers 9 = .ok (.iconst 0, 1) := by decide +kernel
theorem dX4_countOthers_10 : decode cX4_countOthers 10 = .ok (.istore 5, 2) := by decide +kernel
theorem dX4_countOthers_12 : decode cX4_countOthers 12 = .ok (.iload 5, 2) := by decide +kernel
theorem dX4_countOthers_14 : decode cX4_countOthers 14 = .ok (.aload_n 0, 1) := by decide +kernel
theorem dX4_countOthers_15 : decode cX4_countOthers 15 = .ok (.getfield 19, 3) := by decide +kernel
theorem dX4_countOthers_18 : decode cX4_countOthers 18 = .ok (.if_icmp .ge 54, 3) := by decide +kernel
theorem dX4_countOthers_21 : decode cX4_countOthers 21 = .ok (.aload_n 0, 1) := by decide +kernel
theorem dX4_countOthers_22 : decode cX4_countOthers 22 = .ok (.iload 5, 2) := by decide +kernel
theorem dX4_countOthers_24 : decode cX4_countOthers 24 = .ok (.invokevirtual 65, 3) := by decide +kernel
theorem dX4_countOthers_27 : decode cX4_countOthers 27 = .ok (.astore 6, 2) := by decide +kernel
theorem dX4_countOthers_29 : decode cX4_countOthers 29 = .ok (.iload 5, 2) := by decide +kernel
theorem dX4_countOthers_31 : decode cX4_countOthers 31 = .ok (.iload_n 1, 1) := by decide +kernel
theorem dX4_countOthers_32 : decode cX4_countOthers 32 = .ok (.if_icmp .eq 34, 3) := by decide +kernel
theorem dX4_countOthers_35 : decode cX4_countOthers 35 = .ok (.iload_n 2, 1) := by decide +kernel
theorem dX4_countOthers_36 : decode cX4_countOthers 36 = .ok (.ifCond .eq 15, 3) := by decide +kernel
theorem dX4_countOthers_39 : decode cX4_countOthers 39 = .ok (.aload_n 3, 1) := by decide +kernel
theorem dX4_countOthers_40 : decode cX4_countOthers 40 = .ok (.aload 6, 2) := by decide +kernel
theorem dX4_countOthers_42 : decode cX4_countOthers 42 = .ok (.invokevirtual 131, 3) := by decide +kernel
theorem dX4_countOthers_45 : decode cX4_countOthers 45 = .ok (.ifCond .eq 21, 3) := by decide +kernel
theorem dX4_countOthers_48 : decode cX4_countOthers 48 = .ok (.goto 15, 3) := by decide +kernel
theorem dX4_countOthers_51 : decode cX4_countOthers 51 = .ok (.aload_n 3, 1) := by decide +kernel
theorem dX4_countOthers_52 : decode cX4_countOthers 52 = .ok (.getfield 84, 3) := by decide +kernel
theorem dX4_countOthers_55 : decode cX4_countOthers 55 = .ok (.aload 6, 2) := by decide +kernel
theorem dX4_countOthers_57 : decode cX4_countOthers 57 = .ok (.getfield 84, 3) := by decide +kernel
theorem dX4_countOthers_60 : decode cX4_countOthers 60 = .ok (.if_icmp .ne 6, 3) := by decide +kernel
theorem dX4_countOthers_63 : decode cX4_countOthers 63 = .ok (.iinc 4 1, 3) := by decide +kernel
theorem dX4_countOthers_66 : decode cX4_countOthers 66 = .ok (.iinc 5 1, 3) := by decide +kernel
theorem dX4_countOthers_69 : decode cX4_countOthers 69 = .ok (.goto (-57), 3) := by decide +kernel
theorem dX4_countOthers_72 : decode cX4_countOthers 72 = .ok (.iload 4, 2) := by decide +kernel
theorem dX4_countOthers_74 : decode cX4_countOthers 74 = .ok (.ireturn, 1) := by decide +kernel
theorem dX4_goBeats_0 : decode cX4_goBeats 0 = .ok (.iconst 0, 1) := by decide +kernel
theorem dX4_goBeats_1 : decode cX4_goBeats 1 = .ok (.istore_n 2, 1) := by decide +kernel
theorem dX4_goBeats_2 : decode cX4_goBeats 2 = .ok (.iconst 0, 1) := by decide +kernel
theorem dX4_goBeats_3 : decode cX4_goBeats 3 = .ok (.istore_n 3, 1) := by decide +kernel
theorem dX4_goBeats_4 : decode cX4_goBeats 4 = .ok (.iload_n 3, 1) := by decide +kernel
theorem dX4_goBeats_5 : decode cX4_goBeats 5 = .ok (.iload_n 1, 1) := by decide +kernel
theorem dX4_goBeats_6 : decode cX4_goBeats 6 = .ok (.if_icmp .ge 16, 3) := by decide +kernel
theorem dX4_goBeats_9 : decode cX4_goBeats 9 = .ok (.iload_n 2, 1) := by decide +kernel
theorem dX4_goBeats_10 : decode cX4_goBeats 10 = .ok (.aload_n 0, 1) := by decide +kernel
theorem dX4_goBeats_11 : decode cX4_goBeats 11 = .ok (.invokevirtual 135, 3) := by decide +kernel
theorem dX4_goBeats_14 : decode cX4_goBeats 14 = .ok (.iadd, 1) := by decide +kernel
theorem dX4_goBeats_15 : decode cX4_goBeats 15 = .ok (.istore_n 2, 1) := by decide +kernel
theorem dX4_goBeats_16 : decode cX4_goBeats 16 = .ok (.iinc 3 1, 3) := by decide +kernel
theorem dX4_goBeats_19 : decode cX4_goBeats 19 = .ok (.goto (-15), 3) := by decide +kernel
theorem dX4_goBeats_22 : decode cX4_goBeats 22 = .ok (.aload_n 0, 1) := by decide +kernel
theorem dX4_goBeats_23 : decode cX4_goBeats 23 = .ok (.dup, 1) := by decide +kernel
theorem dX4_goBeats_24 : decode cX4_goBeats 24 = .ok (.getfield 22, 3) := by decide +kernel
theorem dX4_goBeats_27 : decode cX4_goBeats 27 = .ok (.iload_n 1, 1) := by decide +kernel
theorem dX4_goBeats_28 : decode cX4_goBeats 28 = .ok (.iadd, 1) := by decide +kernel
theorem dX4_goBeats_29 : decode cX4_goBeats 29 = .ok (.putfield 22, 3) := by decide +kernel
theorem dX4_goBeats_32 : decode cX4_goBeats 32 = .ok (.aload_n 0, 1) := by decide +kernel
theorem dX4_goBeats_33 : decode cX4_goBeats 33 = .ok (.dup, 1) := by decide +kernel
theorem dX4_goBeats_34 : decode cX4_goBeats 34 = .ok (.getfield 25, 3) := by decide +kernel
theorem dX4_goBeats_37 : decode cX4_goBeats 37 = .ok (.iload_n 2, 1) := by decide +kernel
theorem dX4_goBeats_38 : decode cX4_goBeats 38 = .ok (.iadd, 1) := by decide +kernel
theorem dX4_goBeats_39 : decode cX4_goBeats 39 = .ok (.putfield 25, 3) := by decide +kernel
theorem dX4_goBeats_42 : decode cX4_goBeats 42 = .ok (.iload_n 2, 1) := by decide +kernel
theorem dX4_goBeats_43 : decode cX4_goBeats 43 = .ok (.ireturn, 1) := by decide +kernel
theorem dX4_goBeat_0 : decode cX4_goBeat 0 = .ok (.iconst 0, 1) := by decide +kernel
theorem dX4_goBeat_1 : decode cX4_goBeat 1 = .ok (.istore_n 1, 1) := by decide +kernel
theorem dX4_goBeat_2 : decode cX4_goBeat 2 = .ok (.iload_n 1, 1) := by decide +kernel
theorem dX4_goBeat_3 : decode cX4_goBeat 3 = .ok (.aload_n 0, 1) := by decide +kernel
theorem dX4_goBeat_4 : decode cX4_goBeat 4 = .ok (.getfield 19, 3) := by decide +kernel
theorem dX4_goBeat_7 : decode cX4_goBeat 7 = .ok (.if_icmp .ge 26, 3) := by decide +kernel
theorem dX4_goBeat_10 : decode cX4_goBeat 10 = .ok (.aload_n 0, 1) := by decide +kernel
theorem dX4_goBeat_11 : decode cX4_goBeat 11 = .ok (.aload_n 0, 1) := by decide +kernel
theorem dX4_goBeat_12 : decode cX4_goBeat 12 = .ok (.iload_n 1, 1) := by decide +kernel
theorem dX4_goBeat_13 : decode cX4_goBeat 13 = .ok (.invokevirtual 65, 3) := by decide +kernel
theorem dX4_goBeat_16 : decode cX4_goBeat 16 = .ok (.invokevirtual 138, 3) := by decide +kernel
theorem dX4_goBeat_19 : decode cX4_goBeat 19 = .ok (.aload_n 0, 1) := by decide +kernel
theorem dX4_goBeat_20 : decode cX4_goBeat 20 = .ok (.iload_n 1, 1) := by decide +kernel
theorem dX4_goBeat_21 : decode cX4_goBeat 21 = .ok (.invokevirtual 65, 3) := by decide +kernel
theorem dX4_goBeat_24 : decode cX4_goBeat 24 = .ok (.invokevirtual 141, 3) := by decide +kernel
theorem dX4_goBeat_27 : decode cX4_goBeat 27 = .ok (.iinc 1 1, 3) := by decide +kernel
theorem dX4_goBeat_30 : decode cX4_goBeat 30 = .ok (.goto (-28), 3) := by decide +kernel
theorem dX4_goBeat_33 : decode cX4_goBeat 33 = .ok (.iconst 0, 1) := by decide +kernel
theorem dX4_goBeat_34 : decode cX4_goBeat 34 = .ok (.istore_n 1, 1) := by decide +kernel
theorem dX4_goBeat_35 : decode cX4_goBeat 35 = .ok (.iconst 0, 1) := by decide +kernel
theorem dX4_goBeat_36 : decode cX4_goBeat 36 = .ok (.istore_n 2, 1) := by decide +kernel
theorem dX4_goBeat_37 : decode cX4_goBeat 37 = .ok (.iload_n 2, 1) := by decide +kernel
theorem dX4_goBeat_38 : decode cX4_goBeat 38 = .ok (.aload_n 0, 1) := by decide +kernel
theorem dX4_goBeat_39 : decode cX4_goBeat 39 = .ok (.getfield 19, 3) := by decide +kernel
theorem dX4_goBeat_42 : decode cX4_goBeat 42 = .ok (.if_icmp .ge 38, 3) := by decide +kernel
theorem dX4_goBeat_45 : decode cX4_goBeat 45 = .ok (.aload_n 0, 1) := by decide +kernel
theorem dX4_goBeat_46 : decode cX4_goBeat 46 = .ok (.iload_n 2, 1) := by decide +kernel
theorem dX4_goBeat_47 : decode cX4_goBeat 47 = .ok (.invokevirtual 144, 3) := by decide +kernel
theorem dX4_goBeat_50 : decode cX4_goBeat 50 = .ok (.istore_n 3, 1) := by decide +kernel
theorem dX4_goBeat_51 : decode cX4_goBeat 51 = .ok (.aload_n 0, 1) := by decide +kernel
theorem dX4_goBeat_52 : decode cX4_goBeat 52 = .ok (.aload_n 0, 1) := by decide +kernel
theorem dX4_goBeat_53 : decode cX4_goBeat 53 = .ok (.iload_n 2, 1) := by decide +kernel
theorem dX4_goBeat_54 : decode cX4_goBeat 54 = .ok (.invokevirtual 65, 3) := by decide +kernel
theorem dX4_goBeat_57 : decode cX4_goBeat 57 = .ok (.iload_n 3, 1) := by decide +kernel
theorem dX4_goBeat_58 : decode cX4_goBeat 58 = .ok (.invokevirtual 147, 3) := by decide +kernel
theorem dX4_goBeat_61 : decode cX4_goBeat 61 = .ok (.iload_n 3, 1) := by decide +kernel
theorem dX4_goBeat_62 : decode cX4_goBeat 62 = .ok (.iconst (-1), 1) := by decide +kernel
theorem dX4_goBeat_63 : decode cX4_goBeat 63 = .ok (.if_icmp .eq 11, 3) := by decide +kernel
theorem dX4_goBeat_66 : decode cX4_goBeat 66 = .ok (.iload_n 3, 1) := by decide +kernel
theorem dX4_goBeat_67 : decode cX4_goBeat 67 = .ok (.iload_n 2, 1) := by decide +kernel
theorem dX4_goBeat_68 : decode cX4_goBeat 68 = .ok (.if_icmp .ge 6, 3) := by decide +kernel
theorem dX4_goBeat_71 : decode cX4_goBeat 71 = .ok (.iinc 1 1, 3) := by decide +kernel
theorem dX4_goBeat_74 : decode cX4_goBeat 74 = .ok (.iinc 2 1, 3) := by decide +kernel
theorem dX4_goBeat_77 : decode cX4_goBeat 77 = .ok (.goto (-40), 3) := by decide +kernel
theorem dX4_goBeat_80 : decode cX4_goBeat 80 = .ok (.iconst 0, 1) := by decide +kernel
theorem dX4_goBeat_81 : decode cX4_goBeat 81 = .ok (.istore_n 2, 1) := by decide +kernel
theorem dX4_goBeat_82 : decode cX4_goBeat 82 = .ok (.iload_n 2, 1) := by decide +kernel
theorem dX4_goBeat_83 : decode cX4_goBeat 83 = .ok (.aload_n 0, 1) := by decide +kernel
theorem dX4_goBeat_84 : decode cX4_goBeat 84 = .ok (.getfield 19, 3) := by decide +kernel
theorem dX4_goBeat_87 : decode cX4_goBeat 87 = .ok (.if_icmp .ge 29, 3) := by decide +kernel
theorem dX4_goBeat_90 : decode cX4_goBeat 90 = .ok (.aload_n 0, 1) := by decide +kernel
theorem dX4_goBeat_91 : decode cX4_goBeat 91 = .ok (.iload_n 2, 1) := by decide +kernel
theorem dX4_goBeat_92 : decode cX4_goBeat 92 = .ok (.invokevirtual 65, 3) := by decide +kernel
theorem dX4_goBeat_95 : decode cX4_goBeat 95 = .ok (.getfield 151, 3) := by decide +kernel
theorem dX4_goBeat_98 : decode cX4_goBeat 98 = .ok (.ifCond .ne 12, 3) := by decide +kernel
theorem dX4_goBeat_101 : decode cX4_goBeat 101 = .ok (.aload_n 0, 1) := by decide +kernel
theorem dX4_goBeat_102 : decode cX4_goBeat 102 = .ok (.aload_n 0, 1) := by decide +kernel
theorem dX4_goBeat_103 : decode cX4_goBeat 103 = .ok (.iload_n 2, 1) := by decide +kernel
theorem dX4_goBeat_104 : decode cX4_goBeat 104 = .ok (.invokevirtual 65, 3) := by decide +kernel
theorem dX4_goBeat_107 : decode cX4_goBeat 107 = .ok (.invokevirtual 155, 3) := by decide +kernel
theorem dX4_goBeat_110 : decode cX4_goBeat 110 = .ok (.iinc 2 1, 3) := by decide +kernel
theorem dX4_goBeat_113 : decode cX4_goBeat 113 = .ok (.goto (-31), 3) := by decide +kernel
theorem dX4_goBeat_116 : decode cX4_goBeat 116 = .ok (.iload_n 1, 1) := by decide +kernel
theorem dX4_goBeat_117 : decode cX4_goBeat 117 = .ok (.ireturn, 1) := by decide +kernel
theorem dX4_doStep_0 : decode cX4_doStep 0 = .ok (.aload_n 0, 1) := by decide +kernel
theorem dX4_doStep_1 : decode cX4_doStep 1 = .ok (.aload_n 1, 1) := by decide +kernel
theorem dX4_doStep_2 : decode cX4_doStep 2 = .ok (.getfield 90, 3) := by decide +kernel
theorem dX4_doStep_5 : decode cX4_doStep 5 = .ok (.invokevirtual 53, 3) := by decide +kernel
theorem dX4_doStep_8 : decode cX4_doStep 8 = .ok (.astore_n 2, 1) := by decide +kernel
theorem dX4_doStep_9 : decode cX4_doStep 9 = .ok (.aload_n 2, 1) := by decide +kernel
theorem dX4_doStep_10 : decode cX4_doStep 10 = .ok (.aload_n 1, 1) := by decide +kernel
theorem dX4_doStep_11 : decode cX4_doStep 11 = .ok (.getfield 93, 3) := by decide +kernel
theorem dX4_doStep_14 : decode cX4_doStep 14 = .ok (.invokevirtual 158, 3) := by decide +kernel
theorem dX4_doStep_17 : decode cX4_doStep 17 = .ok (.istore_n 3, 1) := by decide +kernel
theorem dX4_doStep_18 : decode cX4_doStep 18 = .ok (.iload_n 3, 1) := by decide +kernel
theorem dX4_doStep_19 : decode cX4_doStep 19 = .ok (.ifCond .ne 17, 3) := by decide +kernel
theorem dX4_doStep_22 : decode cX4_doStep 22 = .ok (.aload_n 1, 1) := by decide +kernel
theorem dX4_doStep_23 : decode cX4_doStep 23 = .ok (.getfield 84, 3) := by decide +kernel
theorem dX4_doStep_26 : decode cX4_doStep 26 = .ok (.aload_n 1, 1) := by decide +kernel
theorem dX4_doStep_27 : decode cX4_doStep 27 = .ok (.getfield 87, 3) := by decide +kernel
theorem dX4_doStep_30 : decode cX4_doStep 30 = .ok (.invokestatic 161, 3) := by decide +kernel
theorem dX4_doStep_33 : decode cX4_doStep 33 = .ok (.goto 4, 3) := by decide +kernel
theorem dX4_doStep_36 : decode cX4_doStep 36 = .ok (.iconst (-1), 1) := by decide +kernel
theorem dX4_doStep_37 : decode cX4_doStep 37 = .ok (.istore 4, 2) := by decide +kernel
theorem dX4_doStep_39 : decode cX4_doStep 39 = .ok (.iload 4, 2) := by decide +kernel
theorem dX4_doStep_41 : decode cX4_doStep 41 = .ok (.iconst (-1), 1) := by decide +kernel
theorem dX4_doStep_42 : decode cX4_doStep 42 = .ok (.if_icmp .eq 21, 3) := by decide +kernel
theorem dX4_doStep_45 : decode cX4_doStep 45 = .ok (.aload_n 0, 1) := by decide +kernel
theorem dX4_doStep_46 : decode cX4_doStep 46 = .ok (.iload 4, 2) := by decide +kernel
theorem dX4_doStep_48 : decode cX4_doStep 48 = .ok (.invokevirtual 104, 3) := by decide +kernel
theorem dX4_doStep_51 : decode cX4_doStep 51 = .ok (.ifCond .ne 12, 3) := by decide +kernel
theorem dX4_doStep_54 : decode cX4_doStep 54 = .ok (.aload_n 1, 1) := by decide +kernel
theorem dX4_doStep_55 : decode cX4_doStep 55 = .ok (.iload 4, 2) := by decide +kernel
theorem dX4_doStep_57 : decode cX4_doStep 57 = .ok (.putfield 84, 3) := by decide +kernel
theorem dX4_doStep_60 : decode cX4_doStep 60 = .ok (.goto 12, 3) := by decide +kernel
theorem dX4_doStep_63 : decode cX4_doStep 63 = .ok (.aload_n 1, 1) := by decide +kernel
theorem dX4_doStep_64 : decode cX4_doStep 64 = .ok (.aload_n 2, 1) := by decide +kernel
theorem dX4_doStep_65 : decode cX4_doStep 65 = .ok (.iload_n 3, 1) := by decide +kernel
theorem dX4_doStep_66 : decode cX4_doStep 66 = .ok (.invokevirtual 165, 3) := by decide +kernel
theorem dX4_doStep_69 : decode cX4_doStep 69 = .ok (.invokevirtual 168, 3) := by decide +kernel
theorem dX4_doStep_72 : decode cX4_doStep 72 = .ok (.aload_n 1, 1) := by decide +kernel
theorem dX4_doStep_73 : decode cX4_doStep 73 = .ok (.aload_n 2, 1) := by decide +kernel
theorem dX4_doStep_74 : decode cX4_doStep 74 = .ok (.aload_n 1, 1) := by decide +kernel
theorem dX4_doStep_75 : decode cX4_doStep 75 = .ok (.getfield 93, 3) := by decide +kernel
theorem dX4_doStep_78 : decode cX4_doStep 78 = .ok (.invokevirtual 172, 3) := by decide +kernel
theorem dX4_doStep_81 : decode cX4_doStep 81 = .ok (.putfield 93, 3) := by decide +kernel
theorem dX4_doStep_84 : decode cX4_doStep 84 = .ok (.return_, 1) := by decide +kernel
theorem dX4_placeThatWay_0 : decode cX4_placeThatWay 0 = .ok (.iload_n 0, 1) := by decide +kernel
theorem dX4_placeThatWay_1 : decode cX4_placeThatWay 1 = .ok (.bipush 7, 2) := by decide +kernel
theorem dX4_placeThatWay_3 : decode cX4_placeThatWay 3 = .ok (.irem, 1) := by decide +kernel
theorem dX4_placeThatWay_4 : decode cX4_placeThatWay 4 = .ok (.istore_n 2, 1) := by decide +kernel
theorem dX4_placeThatWay_5 : decode cX4_placeThatWay 5 = .ok (.iload_n 1, 1) := by decide +kernel
theorem dX4_placeThatWay_6 : decode cX4_placeThatWay 6 = .ok (.tableswitch 70 0 2 #[26, 41, 55], 26) := by decide +kernel
theorem dX4_placeThatWay_32 : decode cX4_placeThatWay 32 = .ok (.iload_n 0, 1) := by decide +kernel
theorem dX4_placeThatWay_33 : decode cX4_placeThatWay 33 = .ok (.bipush 7, 2) := by decide +kernel
theorem dX4_placeThatWay_35 : decode cX4_placeThatWay 35 = .ok (.if_icmp .lt 10, 3) := by decide +kernel
theorem dX4_placeThatWay_38 : decode cX4_placeThatWay 38 = .ok (.iload_n 0, 1) := by decide +kernel
theorem dX4_placeThatWay_39 : decode cX4_placeThatWay 39 = .ok (.bipush 7, 2) := by decide +kernel
theorem dX4_placeThatWay_41 : decode cX4_placeThatWay 41 = .ok (.isub, 1) := by decide +kernel
theorem dX4_placeThatWay_42 : decode cX4_placeThatWay 42 = .ok (.goto 4, 3) := by decide +kernel
theorem dX4_placeThatWay_45 : decode cX4_placeThatWay 45 = .ok (.iconst (-1), 1) := by decide +kernel
theorem dX4_placeThatWay_46 : decode cX4_placeThatWay 46 = .ok (.ireturn, 1) := by decide +kernel
theorem dX4_placeThatWay_47 : decode cX4_placeThatWay 47 = .ok (.iload_n 2, 1) := by decide +kernel
theorem dX4_placeThatWay_48 : decode cX4_placeThatWay 48 = .ok (.bipush 6, 2) := by decide +kernel
theorem dX4_placeThatWay_50 : decode cX4_placeThatWay 50 = .ok (.if_icmp .ge 9, 3) := by decide +kernel
theorem dX4_placeThatWay_53 : decode cX4_placeThatWay 53 = .ok (.iload_n 0, 1) := by decide +kernel
theorem dX4_placeThatWay_54 : decode cX4_placeThatWay 54 = .ok (.iconst 1, 1) := by decide +kernel
theorem dX4_placeThatWay_55 : decode cX4_placeThatWay 55 = .ok (.iadd, 1) := by decide +kernel
theorem dX4_placeThatWay_56 : decode cX4_placeThatWay 56 = .ok (.goto 4, 3) := by decide +kernel
theorem dX4_placeThatWay_59 : decode cX4_placeThatWay 59 = .ok (.iconst (-1), 1) := by decide +kernel
theorem dX4_placeThatWay_60 : decode cX4_placeThatWay 60 = .ok (.ireturn, 1) := by decide +kernel
theorem dX4_placeThatWay_61 : decode cX4_placeThatWay 61 = .ok (.iload_n 0, 1) := by decide +kernel
theorem dX4_placeThatWay_62 : decode cX4_placeThatWay 62 = .ok (.bipush 42, 2) := by decide +kernel
theorem dX4_placeThatWay_64 : decode cX4_placeThatWay 64 = .ok (.if_icmp .ge 10, 3) := by decide +kernel
theorem dX4_placeThatWay_67 : decode cX4_placeThatWay 67 = .ok (.iload_n 0, 1) := by decide +kernel
theorem dX4_placeThatWay_68 : decode cX4_placeThatWay 68 = .ok (.bipush 7, 2) := by decide +kernel
theorem dX4_placeThatWay_70 : decode cX4_placeThatWay 70 = .ok (.iadd, 1) := by decide +kernel
theorem dX4_placeThatWay_71 : decode cX4_placeThatWay 71 = .ok (.goto 4, 3) := by decide +kernel
theorem dX4_placeThatWay_74 : decode cX4_placeThatWay 74 = .ok (.iconst (-1), 1) := by decide +kernel
theorem dX4_placeThatWay_75 : decode cX4_placeThatWay 75 = .ok (.ireturn, 1) := by decide +kernel
theorem dX4_placeThatWay_76 : decode cX4_placeThatWay 76 = .ok (.iload_n 2, 1) := by decide +kernel
theorem dX4_placeThatWay_77 : decode cX4_placeThatWay 77 = .ok (.ifCond .le 9, 3) := by decide +kernel
theorem dX4_placeThatWay_80 : decode cX4_placeThatWay 80 = .ok (.iload_n 0, 1) := by decide +kernel
theorem dX4_placeThatWay_81 : decode cX4_placeThatWay 81 = .ok (.iconst 1, 1) := by decide +kernel
theorem dX4_placeThatWay_82 : decode cX4_placeThatWay 82 = .ok (.isub, 1) := by decide +kernel
theorem dX4_placeThatWay_83 : decode cX4_placeThatWay 83 = .ok (.goto 4, 3) := by decide +kernel
theorem dX4_placeThatWay_86 : decode cX4_placeThatWay 86 = .ok (.iconst (-1), 1) := by decide +kernel
theorem dX4_placeThatWay_87 : decode cX4_placeThatWay 87 = .ok (.ireturn, 1) := by decide +kernel
theorem dX4_nextThere_0 : decode cX4_nextThere 0 = .ok (.aload_n 0, 1) := by decide +kernel
theorem dX4_nextThere_1 : decode cX4_nextThere 1 = .ok (.iload_n 1, 1) := by decide +kernel
theorem dX4_nextThere_2 : decode cX4_nextThere 2 = .ok (.invokevirtual 65, 3) := by decide +kernel
theorem dX4_nextThere_5 : decode cX4_nextThere 5 = .ok (.getfield 84, 3) := by decide +kernel
theorem dX4_nextThere_8 : decode cX4_nextThere 8 = .ok (.istore_n 2, 1) := by decide +kernel
theorem dX4_nextThere_9 : decode cX4_nextThere 9 = .ok (.iconst 1, 1) := by decide +kernel
theorem dX4_nextThere_10 : decode cX4_nextThere 10 = .ok (.istore_n 3, 1) := by decide +kernel
theorem dX4_nextThere_11 : decode cX4_nextThere 11 = .ok (.iload_n 3, 1) := by decide +kernel
theorem dX4_nextThere_12 : decode cX4_nextThere 12 = .ok (.aload_n 0, 1) := by decide +kernel
theorem dX4_nextThere_13 : decode cX4_nextThere 13 = .ok (.getfield 19, 3) := by decide +kernel
theorem dX4_nextThere_16 : decode cX4_nextThere 16 = .ok (.if_icmp .ge 51, 3) := by decide +kernel
theorem dX4_nextThere_19 : decode cX4_nextThere 19 = .ok (.iload_n 1, 1) := by decide +kernel
theorem dX4_nextThere_20 : decode cX4_nextThere 20 = .ok (.iload_n 3, 1) := by decide +kernel
theorem dX4_nextThere_21 : decode cX4_nextThere 21 = .ok (.iadd, 1) := by decide +kernel
theorem dX4_nextThere_22 : decode cX4_nextThere 22 = .ok (.aload_n 0, 1) := by decide +kernel
theorem dX4_nextThere_23 : decode cX4_nextThere 23 = .ok (.getfield 19, 3) := by decide +kernel
theorem dX4_nextThere_26 : decode cX4_nextThere 26 = .ok (.if_icmp .ge 9, 3) := by decide +kernel
theorem dX4_nextThere_29 : decode cX4_nextThere 29 = .ok (.iload_n 1, 1) := by decide +kernel
theorem dX4_nextThere_30 : decode cX4_nextThere 30 = .ok (.iload_n 3, 1) := by decide +kernel
theorem dX4_nextThere_31 : decode cX4_nextThere 31 = .ok (.iadd, 1) := by decide +kernel
theorem dX4_nextThere_32 : decode cX4_nextThere 32 = .ok (.goto 11, 3) := by decide +kernel
theorem dX4_nextThere_35 : decode cX4_nextThere 35 = .ok (.iload_n 1, 1) := by decide +kernel
theorem dX4_nextThere_36 : decode cX4_nextThere 36 = .ok (.iload_n 3, 1) := by decide +kernel
theorem dX4_nextThere_37 : decode cX4_nextThere 37 = .ok (.iadd, 1) := by decide +kernel
theorem dX4_nextThere_38 : decode cX4_nextThere 38 = .ok (.aload_n 0, 1) := by decide +kernel
theorem dX4_nextThere_39 : decode cX4_nextThere 39 = .ok (.getfield 19, 3) := by decide +kernel
theorem dX4_nextThere_42 : decode cX4_nextThere 42 = .ok (.isub, 1) := by decide +kernel
theorem dX4_nextThere_43 : decode cX4_nextThere 43 = .ok (.istore 4, 2) := by decide +kernel
theorem dX4_nextThere_45 : decode cX4_nextThere 45 = .ok (.aload_n 0, 1) := by decide +kernel
theorem dX4_nextThere_46 : decode cX4_nextThere 46 = .ok (.iload 4, 2) := by decide +kernel
theorem dX4_nextThere_48 : decode cX4_nextThere 48 = .ok (.invokevirtual 65, 3) := by decide +kernel
theorem dX4_nextThere_51 : decode cX4_nextThere 51 = .ok (.getfield 84, 3) := by decide +kernel
theorem dX4_nextThere_54 : decode cX4_nextThere 54 = .ok (.iload_n 2, 1) := by decide +kernel
theorem dX4_nextThere_55 : decode cX4_nextThere 55 = .ok (.if_icmp .ne 6, 3) := by decide +kernel
theorem dX4_nextThere_58 : decode cX4_nextThere 58 = .ok (.iload 4, 2) := by decide +kernel
theorem dX4_nextThere_60 : decode cX4_nextThere 60 = .ok (.ireturn, 1) := by decide +kernel
theorem dX4_nextThere_61 : decode cX4_nextThere 61 = .ok (.iinc 3 1, 3) := by decide +kernel
theorem dX4_nextThere_64 : decode cX4_nextThere 64 = .ok (.goto (-53), 3) := by decide +kernel
theorem dX4_nextThere_67 : decode cX4_nextThere 67 = .ok (.iconst (-1), 1) := by decide +kernel
theorem dX4_nextThere_68 : decode cX4_nextThere 68 = .ok (.ireturn, 1) := by decide +kernel
theorem dX4_meetAt_0 : decode cX4_meetAt 0 = .ok (.aload_n 0, 1) := by decide +kernel
theorem dX4_meetAt_1 : decode cX4_meetAt 1 = .ok (.iload_n 2, 1) := by decide +kernel
theorem dX4_meetAt_2 : decode cX4_meetAt 2 = .ok (.invokevirtual 65, 3) := by decide +kernel
theorem dX4_meetAt_5 : decode cX4_meetAt 5 = .ok (.astore_n 3, 1) := by decide +kernel
theorem dX4_meetAt_6 : decode cX4_meetAt 6 = .ok (.aload_n 1, 1) := by decide +kernel
theorem dX4_meetAt_7 : decode cX4_meetAt 7 = .ok (.iload_n 2, 1) := by decide +kernel
theorem dX4_meetAt_8 : decode cX4_meetAt 8 = .ok (.iconst (-1), 1) := by decide +kernel
theorem dX4_meetAt_9 : decode cX4_meetAt 9 = .ok (.if_icmp .eq 7, 3) := by decide +kernel
theorem dX4_meetAt_12 : decode cX4_meetAt 12 = .ok (.iconst 1, 1) := by decide +kernel
theorem dX4_meetAt_13 : decode cX4_meetAt 13 = .ok (.goto 4, 3) := by decide +kernel
theorem dX4_meetAt_16 : decode cX4_meetAt 16 = .ok (.iconst 0, 1) := by decide +kernel
theorem dX4_meetAt_17 : decode cX4_meetAt 17 = .ok (.putfield 151, 3) := by decide +kernel
theorem dX4_meetAt_20 : decode cX4_meetAt 20 = .ok (.aload_n 1, 1) := by decide +kernel
theorem dX4_meetAt_21 : decode cX4_meetAt 21 = .ok (.getfield 151, 3) := by decide +kernel
theorem dX4_meetAt_24 : decode cX4_meetAt 24 = .ok (.ifCond .eq 34, 3) := by decide +kernel
theorem dX4_meetAt_27 : decode cX4_meetAt 27 = .ok (.aload_n 3, 1) := by decide +kernel
theorem dX4_meetAt_28 : decode cX4_meetAt 28 = .ok (.invokevirtual 175, 3) := by decide +kernel
theorem dX4_meetAt_31 : decode cX4_meetAt 31 = .ok (.ifCond .eq 27, 3) := by decide +kernel
theorem dX4_meetAt_34 : decode cX4_meetAt 34 = .ok (.aload_n 1, 1) := by decide +kernel
theorem dX4_meetAt_35 : decode cX4_meetAt 35 = .ok (.aload_n 3, 1) := by decide +kernel
theorem dX4_meetAt_36 : decode cX4_meetAt 36 = .ok (.getfield 179, 3) := by decide +kernel
theorem dX4_meetAt_39 : decode cX4_meetAt 39 = .ok (.invokevirtual 111, 3) := by decide +kernel
theorem dX4_meetAt_42 : decode cX4_meetAt 42 = .ok (.ifCond .eq 16, 3) := by decide +kernel
theorem dX4_meetAt_45 : decode cX4_meetAt 45 = .ok (.aload_n 1, 1) := by decide +kernel
theorem dX4_meetAt_46 : decode cX4_meetAt 46 = .ok (.aload_n 3, 1) := by decide +kernel
theorem dX4_meetAt_47 : decode cX4_meetAt 47 = .ok (.invokevirtual 182, 3) := by decide +kernel
theorem dX4_meetAt_50 : decode cX4_meetAt 50 = .ok (.aload_n 1, 1) := by decide +kernel
theorem dX4_meetAt_51 : decode cX4_meetAt 51 = .ok (.aload_n 3, 1) := by decide +kernel
theorem dX4_meetAt_52 : decode cX4_meetAt 52 = .ok (.getfield 185, 3) := by decide +kernel
theorem dX4_meetAt_55 : decode cX4_meetAt 55 = .ok (.putfield 87, 3) := by decide +kernel
theorem dX4_meetAt_58 : decode cX4_meetAt 58 = .ok (.return_, 1) := by decide +kernel
theorem dX4_hearLoud_0 : decode cX4_hearLoud 0 = .ok (.iconst 0, 1) := by decide +kernel
theorem dX4_hearLoud_1 : decode cX4_hearLoud 1 = .ok (.istore_n 2, 1) := by decide +kernel
theorem dX4_hearLoud_2 : decode cX4_hearLoud 2 = .ok (.iload_n 2, 1) := by decide +kernel
theorem dX4_hearLoud_3 : decode cX4_hearLoud 3 = .ok (.aload_n 0, 1) := by decide +kernel
theorem dX4_hearLoud_4 : decode cX4_hearLoud 4 = .ok (.getfield 19, 3) := by decide +kernel
theorem dX4_hearLoud_7 : decode cX4_hearLoud 7 = .ok (.if_icmp .ge 48, 3) := by decide +kernel
theorem dX4_hearLoud_10 : decode cX4_hearLoud 10 = .ok (.aload_n 0, 1) := by decide +kernel
theorem dX4_hearLoud_11 : decode cX4_hearLoud 11 = .ok (.iload_n 2, 1) := by decide +kernel
theorem dX4_hearLoud_12 : decode cX4_hearLoud 12 = .ok (.invokevirtual 65, 3) := by decide +kernel
theorem dX4_hearLoud_15 : decode cX4_hearLoud 15 = .ok (.astore_n 3, 1) := by decide +kernel
theorem dX4_hearLoud_16 : decode cX4_hearLoud 16 = .ok (.aload_n 3, 1) := by decide +kernel
theorem dX4_hearLoud_17 : decode cX4_hearLoud 17 = .ok (.getfield 81, 3) := by decide +kernel
theorem dX4_hearLoud_20 : decode cX4_hearLoud 20 = .ok (.iconst 5, 1) := by decide +kernel
theorem dX4_hearLoud_21 : decode cX4_hearLoud 21 = .ok (.if_icmp .ne 28, 3) := by decide +kernel
theorem dX4_hearLoud_24 : decode cX4_hearLoud 24 = .ok (.aload_n 1, 1) := by decide +kernel
theorem dX4_hearLoud_25 : decode cX4_hearLoud 25 = .ok (.aload_n 3, 1) := by decide +kernel
theorem dX4_hearLoud_26 : decode cX4_hearLoud 26 = .ok (.invokevirtual 131, 3) := by decide +kernel
theorem dX4_hearLoud_29 : decode cX4_hearLoud 29 = .ok (.ifCond .eq 20, 3) := by decide +kernel
theorem dX4_hearLoud_32 : decode cX4_hearLoud 32 = .ok (.aload_n 1, 1) := by decide +kernel
theorem dX4_hearLoud_33 : decode cX4_hearLoud 33 = .ok (.aload_n 3, 1) := by decide +kernel
theorem dX4_hearLoud_34 : decode cX4_hearLoud 34 = .ok (.getfield 90, 3) := by decide +kernel
theorem dX4_hearLoud_37 : decode cX4_hearLoud 37 = .ok (.invokevirtual 111, 3) := by decide +kernel
theorem dX4_hearLoud_40 : decode cX4_hearLoud 40 = .ok (.ifCond .eq 9, 3) := by decide +kernel
theorem dX4_hearLoud_43 : decode cX4_hearLoud 43 = .ok (.aload_n 1, 1) := by decide +kernel
theorem dX4_hearLoud_44 : decode cX4_hearLoud 44 = .ok (.aload_n 3, 1) := by decide +kernel
theorem dX4_hearLoud_45 : decode cX4_hearLoud 45 = .ok (.invokevirtual 182, 3) := by decide +kernel
theorem dX4_hearLoud_48 : decode cX4_hearLoud 48 = .ok (.return_, 1) := by decide +kernel
theorem dX4_hearLoud_49 : decode cX4_hearLoud 49 = .ok (.iinc 2 1, 3) := by decide +kernel
theorem dX4_hearLoud_52 : decode cX4_hearLoud 52 = .ok (.goto (-50), 3) := by decide +kernel
theorem dX4_hearLoud_55 : decode cX4_hearLoud 55 = .ok (.return_, 1) := by decide +kernel
theorem dX4_drawStranger_0 : decode cX4_drawStranger 0 = .ok (.iconst 0, 1) := by decide +kernel
theorem dX4_drawStranger_1 : decode cX4_drawStranger 1 = .ok (.istore_n 1, 1) := by decide +kernel
theorem dX4_drawStranger_2 : decode cX4_drawStranger 2 = .ok (.iload_n 1, 1) := by decide +kernel
theorem dX4_drawStranger_3 : decode cX4_drawStranger 3 = .ok (.bipush 100, 2) := by decide +kernel
theorem dX4_drawStranger_5 : decode cX4_drawStranger 5 = .ok (.if_icmp .ge 49, 3) := by decide +kernel
theorem dX4_drawStranger_8 : decode cX4_drawStranger 8 = .ok (.aload_n 0, 1) := by decide +kernel
theorem dX4_drawStranger_9 : decode cX4_drawStranger 9 = .ok (.bipush 49, 2) := by decide +kernel
theorem dX4_drawStranger_11 : decode cX4_drawStranger 11 = .ok (.invokevirtual 188, 3) := by decide +kernel
theorem dX4_drawStranger_14 : decode cX4_drawStranger 14 = .ok (.istore_n 2, 1) := by decide +kernel
theorem dX4_drawStranger_15 : decode cX4_drawStranger 15 = .ok (.aload_n 0, 1) := by decide +kernel
theorem dX4_drawStranger_16 : decode cX4_drawStranger 16 = .ok (.iload_n 2, 1) := by decide +kernel
theorem dX4_drawStranger_17 : decode cX4_drawStranger 17 = .ok (.invokevirtual 191, 3) := by decide +kernel
theorem dX4_drawStranger_20 : decode cX4_drawStranger 20 = .ok (.ifCond .eq 28, 3) := by decide +kernel
theorem dX4_drawStranger_23 : decode cX4_drawStranger 23 = .ok (.aload_n 0, 1) := by decide +kernel
theorem dX4_drawStranger_24 : decode cX4_drawStranger 24 = .ok (.iconst 4, 1) := by decide +kernel
theorem dX4_drawStranger_25 : decode cX4_drawStranger 25 = .ok (.invokevirtual 188, 3) := by decide +kernel
theorem dX4_drawStranger_28 : decode cX4_drawStranger 28 = .ok (.istore_n 3, 1) := by decide +kernel
theorem dX4_drawStranger_29 : decode cX4_drawStranger 29 = .ok (.aload_n 0, 1) := by decide +kernel
theorem dX4_drawStranger_30 : decode cX4_drawStranger 30 = .ok (.iconst 0, 1) := by decide +kernel
theorem dX4_drawStranger_31 : decode cX4_drawStranger 31 = .ok (.iload_n 2, 1) := by decide +kernel
theorem dX4_drawStranger_32 : decode cX4_drawStranger 32 = .ok (.iload_n 3, 1) := by decide +kernel
theorem dX4_drawStranger_33 : decode cX4_drawStranger 33 = .ok (.aload_n 0, 1) := by decide +kernel
theorem dX4_drawStranger_34 : decode cX4_drawStranger 34 = .ok (.aload_n 0, 1) := by decide +kernel
theorem dX4_drawStranger_35 : decode cX4_drawStranger 35 = .ok (.getfield 15, 3) := by decide +kernel
theorem dX4_drawStranger_38 : decode cX4_drawStranger 38 = .ok (.invokevirtual 188, 3) := by decide +kernel
theorem dX4_drawStranger_41 : decode cX4_drawStranger 41 = .ok (.iconst 0, 1) := by decide +kernel
theorem dX4_drawStranger_42 : decode cX4_drawStranger 42 = .ok (.invokevirtual 194, 3) := by decide +kernel
theorem dX4_drawStranger_45 : decode cX4_drawStranger 45 = .ok (.pop, 1) := by decide +kernel
theorem dX4_drawStranger_46 : decode cX4_drawStranger 46 = .ok (.iconst 1, 1) := by decide +kernel
theorem dX4_drawStranger_47 : decode cX4_drawStranger 47 = .ok (.ireturn, 1) := by decide +kernel
theorem dX4_drawStranger_48 : decode cX4_drawStranger 48 = .ok (.iinc 1 1, 3) := by decide +kernel
theorem dX4_drawStranger_51 : decode cX4_drawStranger 51 = .ok (.goto (-49), 3) := by decide +kernel
theorem dX4_drawStranger_54 : decode cX4_drawStranger 54 = .ok (.iconst 0, 1) := by decide +kernel
theorem dX4_drawStranger_55 : decode cX4_drawStranger 55 = .ok (.ireturn, 1) := by decide +kernel
theorem dX4_draw_0 : decode cX4_draw 0 = .ok (.aload_n 0, 1) := by decide +kernel
theorem dX4_draw_1 : decode cX4_draw 1 = .ok (.aload_n 0, 1) := by decide +kernel
theorem dX4_draw_2 : decode cX4_draw 2 = .ok (.getfield 28, 3) := by decide +kernel
theorem dX4_draw_5 : decode cX4_draw 5 = .ok (.ldc 198, 2) := by decide +kernel
theorem dX4_draw_7 : decode cX4_draw 7 = .ok (.imul, 1) := by decide +kernel
theorem dX4_draw_8 : decode cX4_draw 8 = .ok (.sipush 12345, 3) := by decide +kernel
theorem dX4_draw_11 : decode cX4_draw 11 = .ok (.iadd, 1) := by decide +kernel
theorem dX4_draw_12 : decode cX4_draw 12 = .ok (.putfield 28, 3) := by decide +kernel
theorem dX4_draw_15 : decode cX4_draw 15 = .ok (.iload_n 1, 1) := by decide +kernel
theorem dX4_draw_16 : decode cX4_draw 16 = .ok (.ifCond .le 15, 3) := by decide +kernel
theorem dX4_draw_19 : decode cX4_draw 19 = .ok (.aload_n 0, 1) := by decide +kernel
theorem dX4_draw_20 : decode cX4_draw 20 = .ok (.getfield 28, 3) := by decide +kernel
theorem dX4_draw_23 : decode cX4_draw 23 = .ok (.bipush 16, 2) := by decide +kernel
theorem dX4_draw_25 : decode cX4_draw 25 = .ok (.iushr, 1) := by decide +kernel
theorem dX4_draw_26 : decode cX4_draw 26 = .ok (.iload_n 1, 1) := by decide +kernel
theorem dX4_draw_27 : decode cX4_draw 27 = .ok (.irem, 1) := by decide +kernel
theorem dX4_draw_28 : decode cX4_draw 28 = .ok (.goto 4, 3) := by decide +kernel
theorem dX4_draw_31 : decode cX4_draw 31 = .ok (.iconst 0, 1) := by decide +kernel
theorem dX4_draw_32 : decode cX4_draw 32 = .ok (.ireturn, 1) := by decide +kernel
theorem dX5_init_0 : decode cX5_init 0 = .ok (.aload_n 0, 1) := by decide +kernel
theorem dX5_init_1 : decode cX5_init 1 = .ok (.invokespecial 3, 3) := by decide +kernel
theorem dX5_init_4 : decode cX5_init 4 = .ok (.aload_n 0, 1) := by decide +kernel
theorem dX5_init_5 : decode cX5_init 5 = .ok (.iconst 0, 1) := by decide +kernel
theorem dX5_init_6 : decode cX5_init 6 = .ok (.putfield 9, 3) := by decide +kernel
theorem dX5_init_9 : decode cX5_init 9 = .ok (.aload_n 0, 1) := by decide +kernel
theorem dX5_init_10 : decode cX5_init 10 = .ok (.iconst 0, 1) := by decide +kernel
theorem dX5_init_11 : decode cX5_init 11 = .ok (.putfield 15, 3) := by decide +kernel
theorem dX5_init_14 : decode cX5_init 14 = .ok (.aload_n 0, 1) := by decide +kernel
theorem dX5_init_15 : decode cX5_init 15 = .ok (.iconst 0, 1) := by decide +kernel
theorem dX5_init_16 : decode cX5_init 16 = .ok (.putfield 18, 3) := by decide +kernel
theorem dX5_init_19 : decode cX5_init 19 = .ok (.aload_n 0, 1) := by decide +kernel
theorem dX5_init_20 : decode cX5_init 20 = .ok (.iconst 0, 1) := by decide +kernel
theorem dX5_init_21 : decode cX5_init 21 = .ok (.putfield 21, 3) := by decide +kernel
theorem dX5_init_24 : decode cX5_init 24 = .ok (.aload_n 0, 1) := by decide +kernel
theorem dX5_init_25 : decode cX5_init 25 = .ok (.iconst 0, 1) := by decide +kernel
theorem dX5_init_26 : decode cX5_init 26 = .ok (.putfield 24, 3) := by decide +kernel
theorem dX5_init_29 : decode cX5_init 29 = .ok (.aload_n 0, 1) := by decide +kernel
theorem dX5_init_30 : decode cX5_init 30 = .ok (.iconst 0, 1) := by decide +kernel
theorem dX5_init_31 : decode cX5_init 31 = .ok (.putfield 27, 3) := by decide +kernel
theorem dX5_init_34 : decode cX5_init 34 = .ok (.aload_n 0, 1) := by decide +kernel
theorem dX5_init_35 : decode cX5_init 35 = .ok (.iconst 0, 1) := by decide +kernel
theorem dX5_init_36 : decode cX5_init 36 = .ok (.putfield 30, 3) := by decide +kernel
theorem dX5_init_39 : decode cX5_init 39 = .ok (.aload_n 0, 1) := by decide +kernel
theorem dX5_init_40 : decode cX5_init 40 = .ok (.iconst 0, 1) := by decide +kernel
theorem dX5_init_41 : decode cX5_init 41 = .ok (.putfield 33, 3) := by decide +kernel
theorem dX5_init_44 : decode cX5_init 44 = .ok (.aload_n 0, 1) := by decide +kernel
theorem dX5_init_45 : decode cX5_init 45 = .ok (.iconst 0, 1) := by decide +kernel
theorem dX5_init_46 : decode cX5_init 46 = .ok (.putfield 37, 3) := by decide +kernel
theorem dX5_init_49 : decode cX5_init 49 = .ok (.aload_n 0, 1) := by decide +kernel
theorem dX5_init_50 : decode cX5_init 50 = .ok (.iconst 0, 1) := by decide +kernel
theorem dX5_init_51 : decode cX5_init 51 = .ok (.putfield 40, 3) := by decide +kernel
theorem dX5_init_54 : decode cX5_init 54 = .ok (.aload_n 0, 1) := by decide +kernel
theorem dX5_init_55 : decode cX5_init 55 = .ok (.iconst 0, 1) := by decide +kernel
theorem dX5_init_56 : decode cX5_init 56 = .ok (.putfield 43, 3) := by decide +kernel
theorem dX5_init_59 : decode cX5_init 59 = .ok (.aload_n 0, 1) := by decide +kernel
theorem dX5_init_60 : decode cX5_init 60 = .ok (.iconst 0, 1) := by decide +kernel
theorem dX5_init_61 : decode cX5_init 61 = .ok (.putfield 46, 3) := by decide +kernel
theorem dX5_init_64 : decode cX5_init 64 = .ok (.return_, 1) := by decide +kernel
theorem dX5_becomeAs_0 : decode cX5_becomeAs 0 = .ok (.aload_n 0, 1) := by decide +kernel
theorem dX5_becomeAs_1 : decode cX5_becomeAs 1 = .ok (.aload_n 1, 1) := by decide +kernel
theorem dX5_becomeAs_2 : decode cX5_becomeAs 2 = .ok (.getfield 9, 3) := by decide +kernel
theorem dX5_becomeAs_5 : decode cX5_becomeAs 5 = .ok (.putfield 9, 3) := by decide +kernel
theorem dX5_becomeAs_8 : decode cX5_becomeAs 8 = .ok (.aload_n 0, 1) := by decide +kernel
theorem dX5_becomeAs_9 : decode cX5_becomeAs 9 = .ok (.aload_n 1, 1) := by decide +kernel
theorem dX5_becomeAs_10 : decode cX5_becomeAs 10 = .ok (.getfield 15, 3) := by decide +kernel
theorem dX5_becomeAs_13 : decode cX5_becomeAs 13 = .ok (.putfield 15, 3) := by decide +kernel
theorem dX5_becomeAs_16 : decode cX5_becomeAs 16 = .ok (.aload_n 0, 1) := by decide +kernel
theorem dX5_becomeAs_17 : decode cX5_becomeAs 17 = .ok (.aload_n 1, 1) := by decide +kernel
theorem dX5_becomeAs_18 : decode cX5_becomeAs 18 = .ok (.getfield 18, 3) := by decide +kernel
theorem dX5_becomeAs_21 : decode cX5_becomeAs 21 = .ok (.putfield 18, 3) := by decide +kernel
theorem dX5_becomeAs_24 : decode cX5_becomeAs 24 = .ok (.aload_n 0, 1) := by decide +kernel
theorem dX5_becomeAs_25 : decode cX5_becomeAs 25 = .ok (.aload_n 1, 1) := by decide +kernel
theorem dX5_becomeAs_26 : decode cX5_becomeAs 26 = .ok (.getfield 21, 3) := by decide +kernel
theorem dX5_becomeAs_29 : decode cX5_becomeAs 29 = .ok (.putfield 21, 3) := by decide +kernel
theorem dX5_becomeAs_32 : decode cX5_becomeAs 32 = .ok (.aload_n 0, 1) := by decide +kernel
theorem dX5_becomeAs_33 : decode cX5_becomeAs 33 = .ok (.aload_n 1, 1) := by decide +kernel
theorem dX5_becomeAs_34 : decode cX5_becomeAs 34 = .ok (.getfield 24, 3) := by decide +kernel
theorem dX5_becomeAs_37 : decode cX5_becomeAs 37 = .ok (.putfield 24, 3) := by decide +kernel
theorem dX5_becomeAs_40 : decode cX5_becomeAs 40 = .ok (.aload_n 0, 1) := by decide +kernel
theorem dX5_becomeAs_41 : decode cX5_becomeAs 41 = .ok (.aload_n 1, 1) := by decide +kernel
theorem dX5_becomeAs_42 : decode cX5_becomeAs 42 = .ok (.getfield 27, 3) := by decide +kernel
theorem dX5_becomeAs_45 : decode cX5_becomeAs 45 = .ok (.putfield 27, 3) := by decide +kernel
theorem dX5_becomeAs_48 : decode cX5_becomeAs 48 = .ok (.aload_n 0, 1) := by decide +kernel
theorem dX5_becomeAs_49 : decode cX5_becomeAs 49 = .ok (.aload_n 1, 1) := by decide +kernel
theorem dX5_becomeAs_50 : decode cX5_becomeAs 50 = .ok (.getfield 30, 3) := by decide +kernel
theorem dX5_becomeAs_53 : decode cX5_becomeAs 53 = .ok (.putfield 30, 3) := by decide +kernel
theorem dX5_becomeAs_56 : decode cX5_becomeAs 56 = .ok (.return_, 1) := by decide +kernel
theorem dX5_turn_0 : decode cX5_turn 0 = .ok (.aload_n 0, 1) := by decide +kernel
theorem dX5_turn_1 : decode cX5_turn 1 = .ok (.aload_n 0, 1) := by decide +kernel
theorem dX5_turn_2 : decode cX5_turn 2 = .ok (.getfield 18, 3) := by decide +kernel
theorem dX5_turn_5 : decode cX5_turn 5 = .ok (.aload_n 0, 1) := by decide +kernel
theorem dX5_turn_6 : decode cX5_turn 6 = .ok (.getfield 27, 3) := by decide +kernel
theorem dX5_turn_9 : decode cX5_turn 9 = .ok (.iconst 1, 1) := by decide +kernel
theorem dX5_turn_10 : decode cX5_turn 10 = .ok (.if_icmp .ne 9, 3) := by decide +kernel
theorem dX5_turn_13 : decode cX5_turn 13 = .ok (.iconst 4, 1) := by decide +kernel
theorem dX5_turn_14 : decode cX5_turn 14 = .ok (.iload_n 1, 1) := by decide +kernel
theorem dX5_turn_15 : decode cX5_turn 15 = .ok (.isub, 1) := by decide +kernel
theorem dX5_turn_16 : decode cX5_turn 16 = .ok (.goto 4, 3) := by decide +kernel
theorem dX5_turn_19 : decode cX5_turn 19 = .ok (.iload_n 1, 1) := by decide +kernel
theorem dX5_turn_20 : decode cX5_turn 20 = .ok (.iadd, 1) := by decide +kernel
theorem dX5_turn_21 : decode cX5_turn 21 = .ok (.iconst 4, 1) := by decide +kernel
theorem dX5_turn_22 : decode cX5_turn 22 = .ok (.irem, 1) := by decide +kernel
theorem dX5_turn_23 : decode cX5_turn 23 = .ok (.putfield 18, 3) := by decide +kernel
theorem dX5_turn_26 : decode cX5_turn 26 = .ok (.return_, 1) := by decide +kernel
theorem dX5_rememberHow_0 : decode cX5_rememberHow 0 = .ok (.aload_n 0, 1) := by decide +kernel
theorem dX5_rememberHow_1 : decode cX5_rememberHow 1 = .ok (.aload_n 0, 1) := by decide +kernel
theorem dX5_rememberHow_2 : decode cX5_rememberHow 2 = .ok (.getfield 21, 3) := by decide +kernel
theorem dX5_rememberHow_5 : decode cX5_rememberHow 5 = .ok (.putfield 37, 3) := by decide +kernel
theorem dX5_rememberHow_8 : decode cX5_rememberHow 8 = .ok (.aload_n 0, 1) := by decide +kernel
theorem dX5_rememberHow_9 : decode cX5_rememberHow 9 = .ok (.aload_n 0, 1) := by decide +kernel
theorem dX5_rememberHow_10 : decode cX5_rememberHow 10 = .ok (.getfield 24, 3) := by decide +kernel
theorem dX5_rememberHow_13 : decode cX5_rememberHow 13 = .ok (.putfield 40, 3) := by decide +kernel
theorem dX5_rememberHow_16 : decode cX5_rememberHow 16 = .ok (.aload_n 0, 1) := by decide +kernel
theorem dX5_rememberHow_17 : decode cX5_rememberHow 17 = .ok (.aload_n 0, 1) := by decide +kernel
theorem dX5_rememberHow_18 : decode cX5_rememberHow 18 = .ok (.getfield 18, 3) := by decide +kernel
theorem dX5_rememberHow_21 : decode cX5_rememberHow 21 = .ok (.putfield 43, 3) := by decide +kernel
theorem dX5_rememberHow_24 : decode cX5_rememberHow 24 = .ok (.aload_n 0, 1) := by decide +kernel
theorem dX5_rememberHow_25 : decode cX5_rememberHow 25 = .ok (.aload_n 0, 1) := by decide +kernel
theorem dX5_rememberHow_26 : decode cX5_rememberHow 26 = .ok (.getfield 27, 3) := by decide +kernel
theorem dX5_rememberHow_29 : decode cX5_rememberHow 29 = .ok (.putfield 46, 3) := by decide +kernel
theorem dX5_rememberHow_32 : decode cX5_rememberHow 32 = .ok (.return_, 1) := by decide +kernel
theorem dX5_gives_0 : decode cX5_gives 0 = .ok (.aload_n 0, 1) := by decide +kernel
theorem dX5_gives_1 : decode cX5_gives 1 = .ok (.getfield 9, 3) := by decide +kernel
theorem dX5_gives_4 : decode cX5_gives 4 = .ok (.ifCond .eq 19, 3) := by decide +kernel
theorem dX5_gives_7 : decode cX5_gives 7 = .ok (.aload_n 0, 1) := by decide +kernel
theorem dX5_gives_8 : decode cX5_gives 8 = .ok (.getfield 9, 3) := by decide +kernel
theorem dX5_gives_11 : decode cX5_gives 11 = .ok (.iconst 1, 1) := by decide +kernel
theorem dX5_gives_12 : decode cX5_gives 12 = .ok (.if_icmp .eq 11, 3) := by decide +kernel
theorem dX5_gives_15 : decode cX5_gives 15 = .ok (.aload_n 0, 1) := by decide +kernel
theorem dX5_gives_16 : decode cX5_gives 16 = .ok (.getfield 9, 3) := by decide +kernel
theorem dX5_gives_19 : decode cX5_gives 19 = .ok (.iconst 5, 1) := by decide +kernel
theorem dX5_gives_20 : decode cX5_gives 20 = .ok (.if_icmp .ne 7, 3) := by decide +kernel
theorem dX5_gives_23 : decode cX5_gives 23 = .ok (.iconst 1, 1) := by decide +kernel
theorem dX5_gives_24 : decode cX5_gives 24 = .ok (.goto 4, 3) := by decide +kernel
theorem dX5_gives_27 : decode cX5_gives 27 = .ok (.iconst 0, 1) := by decide +kernel
theorem dX5_gives_28 : decode cX5_gives 28 = .ok (.ireturn, 1) := by decide +kernel
theorem dX5_wouldTake_0 : decode cX5_wouldTake 0 = .ok (.aload_n 0, 1) := by decide +kernel
theorem dX5_wouldTake_1 : decode cX5_wouldTake 1 = .ok (.getfield 9, 3) := by decide +kernel
theorem dX5_wouldTake_4 : decode cX5_wouldTake 4 = .ok (.bipush 6, 2) := by decide +kernel
theorem dX5_wouldTake_6 : decode cX5_wouldTake 6 = .ok (.if_icmp .ne 17, 3) := by decide +kernel
theorem dX5_wouldTake_9 : decode cX5_wouldTake 9 = .ok (.iload_n 1, 1) := by decide +kernel
theorem dX5_wouldTake_10 : decode cX5_wouldTake 10 = .ok (.aload_n 0, 1) := by decide +kernel
theorem dX5_wouldTake_11 : decode cX5_wouldTake 11 = .ok (.getfield 21, 3) := by decide +kernel
theorem dX5_wouldTake_14 : decode cX5_wouldTake 14 = .ok (.if_icmp .le 7, 3) := by decide +kernel
theorem dX5_wouldTake_17 : decode cX5_wouldTake 17 = .ok (.iconst 1, 1) := by decide +kernel
theorem dX5_wouldTake_18 : decode cX5_wouldTake 18 = .ok (.goto 4, 3) := by decide +kernel
theorem dX5_wouldTake_21 : decode cX5_wouldTake 21 = .ok (.iconst 0, 1) := by decide +kernel
theorem dX5_wouldTake_22 : decode cX5_wouldTake 22 = .ok (.ireturn, 1) := by decide +kernel
theorem dX5_wouldTake_23 : decode cX5_wouldTake 23 = .ok (.aload_n 0, 1) := by decide +kernel
theorem dX5_wouldTake_24 : decode cX5_wouldTake 24 = .ok (.getfield 9, 3) := by decide +kernel
theorem dX5_wouldTake_27 : decode cX5_wouldTake 27 = .ok (.ifCond .eq 19, 3) := by decide +kernel
theorem dX5_wouldTake_30 : decode cX5_wouldTake 30 = .ok (.aload_n 0, 1) := by decide +kernel
theorem dX5_wouldTake_31 : decode cX5_wouldTake 31 = .ok (.getfield 9, 3) := by decide +kernel
theorem dX5_wouldTake_34 : decode cX5_wouldTake 34 = .ok (.iconst 3, 1) := by decide +kernel
theorem dX5_wouldTake_35 : decode cX5_wouldTake 35 = .ok (.if_icmp .eq 11, 3) := by decide +kernel
theorem dX5_wouldTake_38 : decode cX5_wouldTake 38 = .ok (.aload_n 0, 1) := by decide +kernel
theorem dX5_wouldTake_39 : decode cX5_wouldTake 39 = .ok (.getfield 9, 3) := by decide +kernel
theorem dX5_wouldTake_42 : decode cX5_wouldTake 42 = .ok (.iconst 4, 1) := by decide +kernel
theorem dX5_wouldTake_43 : decode cX5_wouldTake 43 = .ok (.if_icmp .ne 7, 3) := by decide +kernel
theorem dX5_wouldTake_46 : decode cX5_wouldTake 46 = .ok (.iconst 1, 1) := by decide +kernel
theorem dX5_wouldTake_47 : decode cX5_wouldTake 47 = .ok (.goto 4, 3) := by decide +kernel
theorem dX5_wouldTake_50 : decode cX5_wouldTake 50 = .ok (.iconst 0, 1) := by decide +kernel
theorem dX5_wouldTake_51 : decode cX5_wouldTake 51 = .ok (.ireturn, 1) := by decide +kernel
theorem dX5_takeGaitOf_0 : decode cX5_takeGaitOf 0 = .ok (.aload_n 0, 1) := by decide +kernel
theorem dX5_takeGaitOf_1 : decode cX5_takeGaitOf 1 = .ok (.aload_n 1, 1) := by decide +kernel
theorem dX5_takeGaitOf_2 : decode cX5_takeGaitOf 2 = .ok (.getfield 37, 3) := by decide +kernel
theorem dX5_takeGaitOf_5 : decode cX5_takeGaitOf 5 = .ok (.putfield 21, 3) := by decide +kernel
theorem dX5_takeGaitOf_8 : decode cX5_takeGaitOf 8 = .ok (.aload_n 0, 1) := by decide +kernel
theorem dX5_takeGaitOf_9 : decode cX5_takeGaitOf 9 = .ok (.aload_n 1, 1) := by decide +kernel
theorem dX5_takeGaitOf_10 : decode cX5_takeGaitOf 10 = .ok (.getfield 40, 3) := by decide +kernel
theorem dX5_takeGaitOf_13 : decode cX5_takeGaitOf 13 = .ok (.putfield 24, 3) := by decide +kernel
theorem dX5_takeGaitOf_16 : decode cX5_takeGaitOf 16 = .ok (.aload_n 0, 1) := by decide +kernel
theorem dX5_takeGaitOf_17 : decode cX5_takeGaitOf 17 = .ok (.aload_n 0, 1) := by decide +kernel
theorem dX5_takeGaitOf_18 : decode cX5_takeGaitOf 18 = .ok (.getfield 9, 3) := by decide +kernel
theorem dX5_takeGaitOf_21 : decode cX5_takeGaitOf 21 = .ok (.iconst 4, 1) := by decide +kernel
theorem dX5_takeGaitOf_22 : decode cX5_takeGaitOf 22 = .ok (.if_icmp .ne 12, 3) := by decide +kernel
theorem dX5_takeGaitOf_25 : decode cX5_takeGaitOf 25 = .ok (.iconst 1, 1) := by decide +kernel
theorem dX5_takeGaitOf_26 : decode cX5_takeGaitOf 26 = .ok (.aload_n 1, 1) := by decide +kernel
theorem dX5_takeGaitOf_27 : decode cX5_takeGaitOf 27 = .ok (.getfield 46, 3) := by decide +kernel
theorem dX5_takeGaitOf_30 : decode cX5_takeGaitOf 30 = .ok (.isub, 1) := by decide +kernel
theorem dX5_takeGaitOf_31 : decode cX5_takeGaitOf 31 = .ok (.goto 7, 3) := by decide +kernel
theorem dX5_takeGaitOf_34 : decode cX5_takeGaitOf 34 = .ok (.aload_n 1, 1) := by decide +kernel
theorem dX5_takeGaitOf_35 : decode cX5_takeGaitOf 35 = .ok (.getfield 46, 3) := by decide +kernel
theorem dX5_takeGaitOf_38 : decode cX5_takeGaitOf 38 = .ok (.putfield 27, 3) := by decide +kernel
theorem dX5_takeGaitOf_41 : decode cX5_takeGaitOf 41 = .ok (.return_, 1) := by decide +kernel
theorem dX5_isBeside_0 : decode cX5_isBeside 0 = .ok (.aload_n 0, 1) := by decide +kernel
theorem dX5_isBeside_1 : decode cX5_isBeside 1 = .ok (.getfield 15, 3) := by decide +kernel
theorem dX5_isBeside_4 : decode cX5_isBeside 4 = .ok (.bipush 7, 2) := by decide +kernel
theorem dX5_isBeside_6 : decode cX5_isBeside 6 = .ok (.idiv, 1) := by decide +kernel
theorem dX5_isBeside_7 : decode cX5_isBeside 7 = .ok (.aload_n 1, 1) := by decide +kernel
theorem dX5_isBeside_8 : decode cX5_isBeside 8 = .ok (.getfield 15, 3) := by decide +kernel
theorem dX5_isBeside_11 : decode cX5_isBeside 11 = .ok (.bipush 7, 2) := by decide +kernel
theorem dX5_isBeside_13 : decode cX5_isBeside 13 = .ok (.idiv, 1) := by decide +kernel
theorem dX5_isBeside_14 : decode cX5_isBeside 14 = .ok (.isub, 1) := by decide +kernel
theorem dX5_isBeside_15 : decode cX5_isBeside 15 = .ok (.invokestatic 49, 3) := by decide +kernel
theorem dX5_isBeside_18 : decode cX5_isBeside 18 = .ok (.istore_n 2, 1) := by decide +kernel
theorem dX5_isBeside_19 : decode cX5_isBeside 19 = .ok (.aload_n 0, 1) := by decide +kernel
theorem dX5_isBeside_20 : decode cX5_isBeside 20 = .ok (.getfield 15, 3) := by decide +kernel
theorem dX5_isBeside_23 : decode cX5_isBeside 23 = .ok (.bipush 7, 2) := by decide +kernel
theorem dX5_isBeside_25 : decode cX5_isBeside 25 = .ok (.irem, 1) := by decide +kernel
theorem dX5_isBeside_26 : decode cX5_isBeside 26 = .ok (.aload_n 1, 1) := by decide +kernel
theorem dX5_isBeside_27 : decode cX5_isBeside 27 = .ok (.getfield 15, 3) := by decide +kernel
theorem dX5_isBeside_30 : decode cX5_isBeside 30 = .ok (.bipush 7, 2) := by decide +kernel
theorem dX5_isBeside_32 : decode cX5_isBeside 32 = .ok (.irem, 1) := by decide +kernel
theorem dX5_isBeside_33 : decode cX5_isBeside 33 = .ok (.isub, 1) := by decide +kernel
theorem dX5_isBeside_34 : decode cX5_isBeside 34 = .ok (.invokestatic 49, 3) := by decide +kernel
theorem dX5_isBeside_37 : decode cX5_isBeside 37 = .ok (.istore_n 3, 1) := by decide +kernel
theorem dX5_isBeside_38 : decode cX5_isBeside 38 = .ok (.iload_n 2, 1) := by decide +kernel
theorem dX5_isBeside_39 : decode cX5_isBeside 39 = .ok (.iload_n 3, 1) := by decide +kernel
theorem dX5_isBeside_40 : decode cX5_isBeside 40 = .ok (.iadd, 1) := by decide +kernel
theorem dX5_isBeside_41 : decode cX5_isBeside 41 = .ok (.iconst 1, 1) := by decide +kernel
theorem dX5_isBeside_42 : decode cX5_isBeside 42 = .ok (.if_icmp .ne 7, 3) := by decide +kernel
theorem dX5_isBeside_45 : decode cX5_isBeside 45 = .ok (.iconst 1, 1) := by decide +kernel
theorem dX5_isBeside_46 : decode cX5_isBeside 46 = .ok (.goto 4, 3) := by decide +kernel
theorem dX5_isBeside_49 : decode cX5_isBeside 49 = .ok (.iconst 0, 1) := by decide +kernel
theorem dX5_isBeside_50 : decode cX5_isBeside 50 = .ok (.ireturn, 1) := by decide +kernel
theorem dX5_packed_0 : decode cX5_packed 0 = .ok (.aload_n 0, 1) := by decide +kernel
theorem dX5_packed_1 : decode cX5_packed 1 = .ok (.getfield 15, 3) := by decide +kernel
theorem dX5_packed_4 : decode cX5_packed 4 = .ok (.iconst 4, 1) := by decide +kernel
theorem dX5_packed_5 : decode cX5_packed 5 = .ok (.imul, 1) := by decide +kernel
theorem dX5_packed_6 : decode cX5_packed 6 = .ok (.aload_n 0, 1) := by decide +kernel
theorem dX5_packed_7 : decode cX5_packed 7 = .ok (.getfield 18, 3) := by decide +kernel
theorem dX5_packed_10 : decode cX5_packed 10 = .ok (.iadd, 1) := by decide +kernel
theorem dX5_packed_11 : decode cX5_packed 11 = .ok (.bipush 8, 2) := by decide +kernel
theorem dX5_packed_13 : decode cX5_packed 13 = .ok (.imul, 1) := by decide +kernel
theorem dX5_packed_14 : decode cX5_packed 14 = .ok (.aload_n 0, 1) := by decide +kernel
theorem dX5_packed_15 : decode cX5_packed 15 = .ok (.getfield 21, 3) := by decide +kernel
theorem dX5_packed_18 : decode cX5_packed 18 = .ok (.iadd, 1) := by decide +kernel
theorem dX5_packed_19 : decode cX5_packed 19 = .ok (.bipush 8, 2) := by decide +kernel
theorem dX5_packed_21 : decode cX5_packed 21 = .ok (.imul, 1) := by decide +kernel
theorem dX5_packed_22 : decode cX5_packed 22 = .ok (.aload_n 0, 1) := by decide +kernel
theorem dX5_packed_23 : decode cX5_packed 23 = .ok (.getfield 24, 3) := by decide +kernel
theorem dX5_packed_26 : decode cX5_packed 26 = .ok (.iadd, 1) := by decide +kernel
theorem dX5_packed_27 : decode cX5_packed 27 = .ok (.iconst 2, 1) := by decide +kernel
theorem dX5_packed_28 : decode cX5_packed 28 = .ok (.imul, 1) := by decide +kernel
theorem dX5_packed_29 : decode cX5_packed 29 = .ok (.aload_n 0, 1) := by decide +kernel
theorem dX5_packed_30 : decode cX5_packed 30 = .ok (.getfield 27, 3) := by decide +kernel
theorem dX5_packed_33 : decode cX5_packed 33 = .ok (.iadd, 1) := by decide +kernel
theorem dX5_packed_34 : decode cX5_packed 34 = .ok (.ireturn, 1) := by decide +kernel
theorem dX5_told_0 : decode cX5_told 0 = .ok (.iload_n 1, 1) := by decide +kernel
theorem dX5_told_1 : decode cX5_told 1 = .ok (.tableswitch 69 0 5 #[39, 44, 49, 54, 59, 64], 39) := by decide +kernel
theorem dX5_told_40 : decode cX5_told 40 = .ok (.aload_n 0, 1) := by decide +kernel
theorem dX5_told_41 : decode cX5_told 41 = .ok (.getfield 9, 3) := by decide +kernel
theorem dX5_told_44 : decode cX5_told 44 = .ok (.ireturn, 1) := by decide +kernel
theorem dX5_told_45 : decode cX5_told 45 = .ok (.aload_n 0, 1) := by decide +kernel
theorem dX5_told_46 : decode cX5_told 46 = .ok (.getfield 15, 3) := by decide +kernel
theorem dX5_told_49 : decode cX5_told 49 = .ok (.ireturn, 1) := by decide +kernel
theorem dX5_told_50 : decode cX5_told 50 = .ok (.aload_n 0, 1) := by decide +kernel
theorem dX5_told_51 : decode cX5_told 51 = .ok (.getfield 18, 3) := by decide +kernel
theorem dX5_told_54 : decode cX5_told 54 = .ok (.ireturn, 1) := by decide +kernel
theorem dX5_told_55 : decode cX5_told 55 = .ok (.aload_n 0, 1) := by decide +kernel
theorem dX5_told_56 : decode cX5_told 56 = .ok (.getfield 21, 3) := by decide +kernel
theorem dX5_told_59 : decode cX5_told 59 = .ok (.ireturn, 1) := by decide +kernel
theorem dX5_told_60 : decode cX5_told 60 = .ok (.aload_n 0, 1) := by decide +kernel
theorem dX5_told_61 : decode cX5_told 61 = .ok (.getfield 24, 3) := by decide +kernel
theorem dX5_told_64 : decode cX5_told 64 = .ok (.ireturn, 1) := by decide +kernel
theorem dX5_told_65 : decode cX5_told 65 = .ok (.aload_n 0, 1) := by decide +kernel
theorem dX5_told_66 : decode cX5_told 66 = .ok (.getfield 27, 3) := by decide +kernel
theorem dX5_told_69 : decode cX5_told 69 = .ok (.ireturn, 1) := by decide +kernel
theorem dX5_told_70 : decode cX5_told 70 = .ok (.aload_n 0, 1) := by decide +kernel
theorem dX5_told_71 : decode cX5_told 71 = .ok (.getfield 30, 3) := by decide +kernel
theorem dX5_told_74 : decode cX5_told 74 = .ok (.ireturn, 1) := by decide +kernel
theorem dX6_init_0 : decode cX6_init 0 = .ok (.aload_n 0, 1) := by decide +kernel
theorem dX6_init_1 : decode cX6_init 1 = .ok (.invokespecial 1, 3) := by decide +kernel
theorem dX6_init_4 : decode cX6_init 4 = .ok (.aload_n 0, 1) := by decide +kernel
theorem dX6_init_5 : decode cX6_init 5 = .ok (.bipush 8, 2) := by decide +kernel
theorem dX6_init_7 : decode cX6_init 7 = .ok (.anewarray 9, 3) := by decide +kernel
theorem dX6_init_10 : decode cX6_init 10 = .ok (.putfield 11, 3) := by decide +kernel
theorem dX6_init_13 : decode cX6_init 13 = .ok (.aload_n 0, 1) := by decide +kernel
theorem dX6_init_14 : decode cX6_init 14 = .ok (.new 15, 3) := by decide +kernel
theorem dX6_init_17 : decode cX6_init 17 = .ok (.dup, 1) := by decide +kernel
theorem dX6_init_18 : decode cX6_init 18 = .ok (.invokespecial 17, 3) := by decide +kernel
theorem dX6_init_21 : decode cX6_init 21 = .ok (.putfield 18, 3) := by decide +kernel
theorem dX6_init_24 : decode cX6_init 24 = .ok (.aload_n 0, 1) := by decide +kernel
theorem dX6_init_25 : decode cX6_init 25 = .ok (.new 15, 3) := by decide +kernel
theorem dX6_init_28 : decode cX6_init 28 = .ok (.dup, 1) := by decide +kernel
theorem dX6_init_29 : decode cX6_init 29 = .ok (.invokespecial 17, 3) := by decide +kernel
theorem dX6_init_32 : decode cX6_init 32 = .ok (.putfield 22, 3) := by decide +kernel
theorem dX6_init_35 : decode cX6_init 35 = .ok (.aload_n 0, 1) := by decide +kernel
theorem dX6_init_36 : decode cX6_init 36 = .ok (.new 15, 3) := by decide +kernel
theorem dX6_init_39 : decode cX6_init 39 = .ok (.dup, 1) := by decide +kernel
theorem dX6_init_40 : decode cX6_init 40 = .ok (.invokespecial 17, 3) := by decide +kernel
theorem dX6_init_43 : decode cX6_init 43 = .ok (.putfield 25, 3) := by decide +kernel
theorem dX6_init_46 : decode cX6_init 46 = .ok (.aload_n 0, 1) := by decide +kernel
theorem dX6_init_47 : decode cX6_init 47 = .ok (.new 28, 3) := by decide +kernel
theorem dX6_init_50 : decode cX6_init 50 = .ok (.dup, 1) := by decide +kernel
theorem dX6_init_51 : decode cX6_init 51 = .ok (.invokespecial 30, 3) := by decide +kernel
theorem dX6_init_54 : decode cX6_init 54 = .ok (.putfield 31, 3) := by decide +kernel
theorem dX6_init_57 : decode cX6_init 57 = .ok (.aload_n 0, 1) := by decide +kernel
theorem dX6_init_58 : decode cX6_init 58 = .ok (.new 35, 3) := by decide +kernel
theorem dX6_init_61 : decode cX6_init 61 = .ok (.dup, 1) := by decide +kernel
theorem dX6_init_62 : decode cX6_init 62 = .ok (.invokespecial 37, 3) := by decide +kernel
theorem dX6_init_65 : decode cX6_init 65 = .ok (.putfield 38, 3) := by decide +kernel
theorem dX6_init_68 : decode cX6_init 68 = .ok (.aload_n 0, 1) := by decide +kernel
theorem dX6_init_69 : decode cX6_init 69 = .ok (.bipush 8, 2) := by decide +kernel
theorem dX6_init_71 : decode cX6_init 71 = .ok (.newarray .int, 2) := by decide +kernel
theorem dX6_init_73 : decode cX6_init 73 = .ok (.putfield 42, 3) := by decide +kernel
theorem dX6_init_76 : decode cX6_init 76 = .ok (.aload_n 0, 1) := by decide +kernel
theorem dX6_init_77 : decode cX6_init 77 = .ok (.sipush 401, 3) := by decide +kernel
theorem dX6_init_80 : decode cX6_init 80 = .ok (.newarray .long, 2) := by decide +kernel
theorem dX6_init_82 : decode cX6_init 82 = .ok (.putfield 46, 3) := by decide +kernel
theorem dX6_init_85 : decode cX6_init 85 = .ok (.aload_n 0, 1) := by decide +kernel
theorem dX6_init_86 : decode cX6_init 86 = .ok (.sipush 401, 3) := by decide +kernel
theorem dX6_init_89 : decode cX6_init 89 = .ok (.newarray .long, 2) := by decide +kernel
theorem dX6_init_91 : decode cX6_init 91 = .ok (.putfield 50, 3) := by decide +kernel
theorem dX6_init_94 : decode cX6_init 94 = .ok (.aload_n 0, 1) := by decide +kernel
theorem dX6_init_95 : decode cX6_init 95 = .ok (.iconst 0, 1) := by decide +kernel
theorem dX6_init_96 : decode cX6_init 96 = .ok (.putfield 53, 3) := by decide +kernel
theorem dX6_init_99 : decode cX6_init 99 = .ok (.aload_n 0, 1) := by decide +kernel
theorem dX6_init_100 : decode cX6_init 100 = .ok (.iconst (-1), 1) := by decide +kernel
theorem dX6_init_101 : decode cX6_init 101 = .ok (.putfield 57, 3) := by decide +kernel
theorem dX6_init_104 : decode cX6_init 104 = .ok (.iconst 0, 1) := by decide +kernel
theorem dX6_init_105 : decode cX6_init 105 = .ok (.istore_n 1, 1) := by decide +kernel
theorem dX6_init_106 : decode cX6_init 106 = .ok (.iload_n 1, 1) := by decide +kernel
theorem dX6_init_107 : decode cX6_init 107 = .ok (.aload_n 0, 1) := by decide +kernel
theorem dX6_init_108 : decode cX6_init 108 = .ok (.getfield 11, 3) := by decide +kernel
theorem dX6_init_111 : decode cX6_init 111 = .ok (.arraylength, 1) := by decide +kernel
theorem dX6_init_112 : decode cX6_init 112 = .ok (.if_icmp .ge 22, 3) := by decide +kernel
theorem dX6_init_115 : decode cX6_init 115 = .ok (.aload_n 0, 1) := by decide +kernel
theorem dX6_init_116 : decode cX6_init 116 = .ok (.getfield 11, 3) := by decide +kernel
theorem dX6_init_119 : decode cX6_init 119 = .ok (.iload_n 1, 1) := by decide +kernel
theorem dX6_init_120 : decode cX6_init 120 = .ok (.new 9, 3) := by decide +kernel
theorem dX6_init_123 : decode cX6_init 123 = .ok (.dup, 1) := by decide +kernel
theorem dX6_init_124 : decode cX6_init 124 = .ok (.invokespecial 61, 3) := by decide +kernel
theorem dX6_init_127 : decode cX6_init 127 = .ok (.aastore, 1) := by decide +kernel
theorem dX6_init_128 : decode cX6_init 128 = .ok (.iinc 1 1, 3) := by decide +kernel
theorem dX6_init_131 : decode cX6_init 131 = .ok (.goto (-25), 3) := by decide +kernel
theorem dX6_init_134 : decode cX6_init 134 = .ok (.return_, 1) := by decide +kernel
theorem dX6_row_0 : decode cX6_row 0 = .ok (.aload_n 0, 1) := by decide +kernel
theorem dX6_row_1 : decode cX6_row 1 = .ok (.iload_n 1, 1) := by decide +kernel
theorem dX6_row_2 : decode cX6_row 2 = .ok (.invokevirtual 62, 3) := by decide +kernel
theorem dX6_row_5 : decode cX6_row 5 = .ok (.astore 4, 2) := by decide +kernel
theorem dX6_row_7 : decode cX6_row 7 = .ok (.aload 4, 2) := by decide +kernel
theorem dX6_row_9 : decode cX6_row 9 = .ok (.ifnonnull 9, 3) := by decide +kernel
theorem dX6_row_12 : decode cX6_row 12 = .ok (.aload_n 0, 1) := by decide +kernel
theorem dX6_row_13 : decode cX6_row 13 = .ok (.iconst (-1), 1) := by decide +kernel
theorem dX6_row_14 : decode cX6_row 14 = .ok (.invokevirtual 66, 3) := by decide +kernel
theorem dX6_row_17 : decode cX6_row 17 = .ok (.ireturn, 1) := by decide +kernel
theorem dX6_row_18 : decode cX6_row 18 = .ok (.iload_n 3, 1) := by decide +kernel
theorem dX6_row_19 : decode cX6_row 19 = .ok (.ifCond .ge 10, 3) := by decide +kernel
theorem dX6_row_22 : decode cX6_row 22 = .ok (.aload_n 0, 1) := by decide +kernel
theorem dX6_row_23 : decode cX6_row 23 = .ok (.bipush (-4), 2) := by decide +kernel
theorem dX6_row_25 : decode cX6_row 25 = .ok (.invokevirtual 66, 3) := by decide +kernel
theorem dX6_row_28 : decode cX6_row 28 = .ok (.ireturn, 1) := by decide +kernel
theorem dX6_row_29 : decode cX6_row 29 = .ok (.iload_n 2, 1) := by decide +kernel
theorem dX6_row_30 : decode cX6_row 30 = .ok (.ifCond .lt 8, 3) := by decide +kernel
theorem dX6_row_33 : decode cX6_row 33 = .ok (.iload_n 2, 1) := by decide +kernel
theorem dX6_row_34 : decode cX6_row 34 = .ok (.iconst 4, 1) := by decide +kernel
theorem dX6_row_35 : decode cX6_row 35 = .ok (.if_icmp .lt 10, 3) := by decide +kernel
theorem dX6_row_38 : decode cX6_row 38 = .ok (.aload_n 0, 1) := by decide +kernel
theorem dX6_row_39 : decode cX6_row 39 = .ok (.bipush (-6), 2) := by decide +kernel
theorem dX6_row_41 : decode cX6_row 41 = .ok (.invokevirtual 66, 3) := by decide +kernel
theorem dX6_row_44 : decode cX6_row 44 = .ok (.ireturn, 1) := by decide +kernel
theorem dX6_row_45 : decode cX6_row 45 = .ok (.iload_n 3, 1) := by decide +kernel
theorem dX6_row_46 : decode cX6_row 46 = .ok (.sipush 160, 3) := by decide +kernel
theorem dX6_row_49 : decode cX6_row 49 = .ok (.if_icmp .le 10, 3) := by decide +kernel
theorem dX6_row_52 : decode cX6_row 52 = .ok (.aload_n 0, 1) := by decide +kernel
theorem dX6_row_53 : decode cX6_row 53 = .ok (.bipush (-7), 2) := by decide +kernel
theorem dX6_row_55 : decode cX6_row 55 = .ok (.invokevirtual 66, 3) := by decide +kernel
theorem dX6_row_58 : decode cX6_row 58 = .ok (.ireturn, 1) := by decide +kernel
theorem dX6_row_59 : decode cX6_row 59 = .ok (.aload 4, 2) := by decide +kernel
theorem dX6_row_61 : decode cX6_row 61 = .ok (.iload_n 2, 1) := by decide +kernel
theorem dX6_row_62 : decode cX6_row 62 = .ok (.iload_n 3, 1) := by decide +kernel
theorem dX6_row_63 : decode cX6_row 63 = .ok (.invokevirtual 70, 3) := by decide +kernel
theorem dX6_row_66 : decode cX6_row 66 = .ok (.iconst 1, 1) := by decide +kernel
theorem dX6_row_67 : decode cX6_row 67 = .ok (.ireturn, 1) := by decide +kernel
theorem dX6_set_0 : decode cX6_set 0 = .ok (.aload_n 0, 1) := by decide +kernel
theorem dX6_set_1 : decode cX6_set 1 = .ok (.iload_n 1, 1) := by decide +kernel
theorem dX6_set_2 : decode cX6_set 2 = .ok (.invokevirtual 62, 3) := by decide +kernel
theorem dX6_set_5 : decode cX6_set 5 = .ok (.astore 5, 2) := by decide +kernel
theorem dX6_set_7 : decode cX6_set 7 = .ok (.aload 5, 2) := by decide +kernel
theorem dX6_set_9 : decode cX6_set 9 = .ok (.invokestatic 74, 3) := by decide +kernel
theorem dX6_set_12 : decode cX6_set 12 = .ok (.istore 6, 2) := by decide +kernel
theorem dX6_set_14 : decode cX6_set 14 = .ok (.aload 5, 2) := by decide +kernel
theorem dX6_set_16 : decode cX6_set 16 = .ok (.ifnull 8, 3) := by decide +kernel
theorem dX6_set_19 : decode cX6_set 19 = .ok (.iload 6, 2) := by decide +kernel
theorem dX6_set_21 : decode cX6_set 21 = .ok (.ifCond .eq 10, 3) := by decide +kernel
theorem dX6_set_24 : decode cX6_set 24 = .ok (.aload_n 0, 1) := by decide +kernel
theorem dX6_set_25 : decode cX6_set 25 = .ok (.iload 6, 2) := by decide +kernel
theorem dX6_set_27 : decode cX6_set 27 = .ok (.invokevirtual 66, 3) := by decide +kernel
theorem dX6_set_30 : decode cX6_set 30 = .ok (.ireturn, 1) := by decide +kernel
theorem dX6_set_31 : decode cX6_set 31 = .ok (.aload 5, 2) := by decide +kernel
theorem dX6_set_33 : decode cX6_set 33 = .ok (.iload_n 2, 1) := by decide +kernel
theorem dX6_set_34 : decode cX6_set 34 = .ok (.invokevirtual 78, 3) := by decide +kernel
theorem dX6_set_37 : decode cX6_set 37 = .ok (.ifCond .ne 10, 3) := by decide +kernel
theorem dX6_set_40 : decode cX6_set 40 = .ok (.aload_n 0, 1) := by decide +kernel
theorem dX6_set_41 : decode cX6_set 41 = .ok (.bipush (-5), 2) := by decide +kernel
theorem dX6_set_43 : decode cX6_set 43 = .ok (.invokevirtual 66, 3) := by decide +kernel
theorem dX6_set_46 : decode cX6_set 46 = .ok (.ireturn, 1) := by decide +kernel
theorem dX6_set_47 : decode cX6_set 47 = .ok (.aload 5, 2) := by decide +kernel
theorem dX6_set_49 : decode cX6_set 49 = .ok (.iload_n 2, 1) := by decide +kernel
theorem dX6_set_50 : decode cX6_set 50 = .ok (.lload_n 3, 1) := by decide +kernel
theorem dX6_set_51 : decode cX6_set 51 = .ok (.invokevirtual 82, 3) := by decide +kernel
theorem dX6_set_54 : decode cX6_set 54 = .ok (.iconst 1, 1) := by decide +kernel
theorem dX6_set_55 : decode cX6_set 55 = .ok (.ireturn, 1) := by decide +kernel
theorem dX6_copy_0 : decode cX6_copy 0 = .ok (.aload_n 0, 1) := by decide +kernel
theorem dX6_copy_1 : decode cX6_copy 1 = .ok (.iload_n 1, 1) := by decide +kernel
theorem dX6_copy_2 : decode cX6_copy 2 = .ok (.invokevirtual 62, 3) := by decide +kernel
theorem dX6_copy_5 : decode cX6_copy 5 = .ok (.astore 6, 2) := by decide +kernel
theorem dX6_copy_7 : decode cX6_copy 7 = .ok (.aload_n 0, 1) := by decide +kernel
theorem dX6_copy_8 : decode cX6_copy 8 = .ok (.iload_n 2, 1) := by decide +kernel
theorem dX6_copy_9 : decode cX6_copy 9 = .ok (.invokevirtual 62, 3) := by decide +kernel
theorem dX6_copy_12 : decode cX6_copy 12 = .ok (.astore 7, 2) := by decide +kernel
theorem dX6_copy_14 : decode cX6_copy 14 = .ok (.aload 6, 2) := by decide +kernel
theorem dX6_copy_16 : decode cX6_copy 16 = .ok (.ifnull 8, 3) := by decide +kernel
theorem dX6_copy_19 : decode cX6_copy 19 = .ok (.aload 7, 2) := by decide +kernel
theorem dX6_copy_21 : decode cX6_copy 21 = .ok (.ifnonnull 9, 3) := by decide +kernel
theorem dX6_copy_24 : decode cX6_copy 24 = .ok (.aload_n 0, 1) := by decide +kernel
theorem dX6_copy_25 : decode cX6_copy 25 = .ok (.iconst (-1), 1) := by decide +kernel
theorem dX6_copy_26 : decode cX6_copy 26 = .ok (.invokevirtual 66, 3) := by decide +kernel
theorem dX6_copy_29 : decode cX6_copy 29 = .ok (.ireturn, 1) := by decide +kernel
theorem dX6_copy_30 : decode cX6_copy 30 = .ok (.aload 6, 2) := by decide +kernel
theorem dX6_copy_32 : decode cX6_copy 32 = .ok (.invokevirtual 86, 3) := by decide +kernel
theorem dX6_copy_35 : decode cX6_copy 35 = .ok (.ifCond .eq 15, 3) := by decide +kernel
theorem dX6_copy_38 : decode cX6_copy 38 = .ok (.aload 7, 2) := by decide +kernel
theorem dX6_copy_40 : decode cX6_copy 40 = .ok (.invokevirtual 86, 3) := by decide +kernel
theorem dX6_copy_43 : decode cX6_copy 43 = .ok (.ifCond .eq 7, 3) := by decide +kernel
theorem dX6_copy_46 : decode cX6_copy 46 = .ok (.iconst 1, 1) := by decide +kernel
theorem dX6_copy_47 : decode cX6_copy 47 = .ok (.goto 4, 3) := by decide +kernel
theorem dX6_copy_50 : decode cX6_copy 50 = .ok (.iconst 0, 1) := by decide +kernel
theorem dX6_copy_51 : decode cX6_copy 51 = .ok (.istore 8, 2) := by decide +kernel
theorem dX6_copy_53 : decode cX6_copy 53 = .ok (.aload 6, 2) := by decide +kernel
theorem dX6_copy_55 : decode cX6_copy 55 = .ok (.invokevirtual 90, 3) := by decide +kernel
theorem dX6_copy_58 : decode cX6_copy 58 = .ok (.ifCond .ne 29, 3) := by decide +kernel
theorem dX6_copy_61 : decode cX6_copy 61 = .ok (.aload 7, 2) := by decide +kernel
theorem dX6_copy_63 : decode cX6_copy 63 = .ok (.invokevirtual 90, 3) := by decide +kernel
theorem dX6_copy_66 : decode cX6_copy 66 = .ok (.ifCond .ne 21, 3) := by decide +kernel
theorem dX6_copy_69 : decode cX6_copy 69 = .ok (.iload 8, 2) := by decide +kernel
theorem dX6_copy_71 : decode cX6_copy 71 = .ok (.ifCond .eq 23, 3) := by decide +kernel
theorem dX6_copy_74 : decode cX6_copy 74 = .ok (.aload 6, 2) := by decide +kernel
theorem dX6_copy_76 : decode cX6_copy 76 = .ok (.getfield 93, 3) := by decide +kernel
theorem dX6_copy_79 : decode cX6_copy 79 = .ok (.aload 7, 2) := by decide +kernel
theorem dX6_copy_81 : decode cX6_copy 81 = .ok (.getfield 93, 3) := by decide +kernel
theorem dX6_copy_84 : decode cX6_copy 84 = .ok (.if_icmp .eq 10, 3) := by decide +kernel
theorem dX6_copy_87 : decode cX6_copy 87 = .ok (.aload_n 0, 1) := by decide +kernel
theorem dX6_copy_88 : decode cX6_copy 88 = .ok (.bipush (-2), 2) := by decide +kernel
theorem dX6_copy_90 : decode cX6_copy 90 = .ok (.invokevirtual 66, 3) := by decide +kernel
theorem dX6_copy_93 : decode cX6_copy 93 = .ok (.ireturn, 1) := by decide +kernel
theorem dX6_copy_94 : decode cX6_copy 94 = .ok (.iload 8, 2) := by decide +kernel
theorem dX6_copy_96 : decode cX6_copy 96 = .ok (.ifCond .ne 10, 3) := by decide +kernel
theorem dX6_copy_99 : decode cX6_copy 99 = .ok (.aload_n 0, 1) := by decide +kernel
theorem dX6_copy_100 : decode cX6_copy 100 = .ok (.bipush (-3), 2) := by decide +kernel
theorem dX6_copy_102 : decode cX6_copy 102 = .ok (.invokevirtual 66, 3) := by decide +kernel
theorem dX6_copy_105 : decode cX6_copy 105 = .ok (.ireturn, 1) := by decide +kernel
theorem dX6_copy_106 : decode cX6_copy 106 = .ok (.iload 5, 2) := by decide +kernel
theorem dX6_copy_108 : decode cX6_copy 108 = .ok (.ifCond .ge 10, 3) := by decide +kernel
theorem dX6_copy_111 : decode cX6_copy 111 = .ok (.aload_n 0, 1) := by decide +kernel
theorem dX6_copy_112 : decode cX6_copy 112 = .ok (.bipush (-4), 2) := by decide +kernel
theorem dX6_copy_114 : decode cX6_copy 114 = .ok (.invokevirtual 66, 3) := by decide +kernel
theorem dX6_copy_117 : decode cX6_copy 117 = .ok (.ireturn, 1) := by decide +kernel
theorem dX6_copy_118 : decode cX6_copy 118 = .ok (.aload 7, 2) := by decide +kernel
theorem dX6_copy_120 : decode cX6_copy 120 = .ok (.aload 6, 2) := by decide +kernel
theorem dX6_copy_122 : decode cX6_copy 122 = .ok (.iload_n 3, 1) := by decide +kernel
theorem dX6_copy_123 : decode cX6_copy 123 = .ok (.iload 4, 2) := by decide +kernel
theorem dX6_copy_125 : decode cX6_copy 125 = .ok (.iload 5, 2) := by decide +kernel
theorem dX6_copy_127 : decode cX6_copy 127 = .ok (.invokevirtual 96, 3) := by decide +kernel
theorem dX6_copy_130 : decode cX6_copy 130 = .ok (.ifCond .eq 7, 3) := by decide +kernel
theorem dX6_copy_133 : decode cX6_copy 133 = .ok (.iconst 1, 1) := by decide +kernel
theorem dX6_copy_134 : decode cX6_copy 134 = .ok (.goto 9, 3) := by decide +kernel
theorem dX6_copy_137 : decode cX6_copy 137 = .ok (.aload_n 0, 1) := by decide +kernel
theorem dX6_copy_138 : decode cX6_copy 138 = .ok (.bipush (-5), 2) := by decide +kernel
theorem dX6_copy_140 : decode cX6_copy 140 = .ok (.invokevirtual 66, 3) := by decide +kernel
theorem dX6_copy_143 : decode cX6_copy 143 = .ok (.ireturn, 1) := by decide +kernel
theorem dX6_element_0 : decode cX6_element 0 = .ok (.aload_n 0, 1) := by decide +kernel
theorem dX6_element_1 : decode cX6_element 1 = .ok (.iload_n 1, 1) := by decide +kernel
theorem dX6_element_2 : decode cX6_element 2 = .ok (.invokevirtual 62, 3) := by decide +kernel
theorem dX6_element_5 : decode cX6_element 5 = .ok (.astore_n 3, 1) := by decide +kernel
theorem dX6_element_6 : decode cX6_element 6 = .ok (.aload_n 3, 1) := by decide +kernel
theorem dX6_element_7 : decode cX6_element 7 = .ok (.ifnonnull 7, 3) := by decide +kernel
theorem dX6_element_10 : decode cX6_element 10 = .ok (.lconst 0, 1) := by decide +kernel
theorem dX6_element_11 : decode cX6_element 11 = .ok (.goto 8, 3) := by decide +kernel
theorem dX6_element_14 : decode cX6_element 14 = .ok (.aload_n 3, 1) := by decide +kernel
theorem dX6_element_15 : decode cX6_element 15 = .ok (.iload_n 2, 1) := by decide +kernel
theorem dX6_element_16 : decode cX6_element 16 = .ok (.invokevirtual 100, 3) := by decide +kernel
theorem dX6_element_19 : decode cX6_element 19 = .ok (.lreturn, 1) := by decide +kernel
theorem dX6_show_0 : decode cX6_show 0 = .ok (.aload_n 0, 1) := by decide +kernel
theorem dX6_show_1 : decode cX6_show 1 = .ok (.iload_n 1, 1) := by decide +kernel
theorem dX6_show_2 : decode cX6_show 2 = .ok (.invokevirtual 62, 3) := by decide +kernel
theorem dX6_show_5 : decode cX6_show 5 = .ok (.astore_n 3, 1) := by decide +kernel
theorem dX6_show_6 : decode cX6_show 6 = .ok (.aload_n 3, 1) := by decide +kernel
theorem dX6_show_7 : decode cX6_show 7 = .ok (.ifnull 19, 3) := by decide +kernel
theorem dX6_show_10 : decode cX6_show 10 = .ok (.iload_n 2, 1) := by decide +kernel
theorem dX6_show_11 : decode cX6_show 11 = .ok (.iconst (-1), 1) := by decide +kernel
theorem dX6_show_12 : decode cX6_show 12 = .ok (.if_icmp .eq 20, 3) := by decide +kernel
theorem dX6_show_15 : decode cX6_show 15 = .ok (.aload_n 0, 1) := by decide +kernel
theorem dX6_show_16 : decode cX6_show 16 = .ok (.getfield 18, 3) := by decide +kernel
theorem dX6_show_19 : decode cX6_show 19 = .ok (.iload_n 2, 1) := by decide +kernel
theorem dX6_show_20 : decode cX6_show 20 = .ok (.invokevirtual 104, 3) := by decide +kernel
theorem dX6_show_23 : decode cX6_show 23 = .ok (.ifCond .ne 9, 3) := by decide +kernel
theorem dX6_show_26 : decode cX6_show 26 = .ok (.aload_n 0, 1) := by decide +kernel
theorem dX6_show_27 : decode cX6_show 27 = .ok (.iconst (-1), 1) := by decide +kernel
theorem dX6_show_28 : decode cX6_show 28 = .ok (.invokevirtual 66, 3) := by decide +kernel
theorem dX6_show_31 : decode cX6_show 31 = .ok (.ireturn, 1) := by decide +kernel
theorem dX6_show_32 : decode cX6_show 32 = .ok (.aload_n 3, 1) := by decide +kernel
theorem dX6_show_33 : decode cX6_show 33 = .ok (.iload_n 2, 1) := by decide +kernel
theorem dX6_show_34 : decode cX6_show 34 = .ok (.invokevirtual 106, 3) := by decide +kernel
theorem dX6_show_37 : decode cX6_show 37 = .ok (.iload_n 2, 1) := by decide +kernel
theorem dX6_show_38 : decode cX6_show 38 = .ok (.iconst (-1), 1) := by decide +kernel
theorem dX6_show_39 : decode cX6_show 39 = .ok (.if_icmp .ne 7, 3) := by decide +kernel
theorem dX6_show_42 : decode cX6_show 42 = .ok (.iconst 0, 1) := by decide +kernel
theorem dX6_show_43 : decode cX6_show 43 = .ok (.goto 4, 3) := by decide +kernel
theorem dX6_show_46 : decode cX6_show 46 = .ok (.iconst 1, 1) := by decide +kernel
theorem dX6_show_47 : decode cX6_show 47 = .ok (.ireturn, 1) := by decide +kernel
theorem dX6_holds_0 : decode cX6_holds 0 = .ok (.aload_n 0, 1) := by decide +kernel
theorem dX6_holds_1 : decode cX6_holds 1 = .ok (.iload_n 1, 1) := by decide +kernel
theorem dX6_holds_2 : decode cX6_holds 2 = .ok (.invokevirtual 62, 3) := by decide +kernel
theorem dX6_holds_5 : decode cX6_holds 5 = .ok (.astore_n 2, 1) := by decide +kernel
theorem dX6_holds_6 : decode cX6_holds 6 = .ok (.aload_n 2, 1) := by decide +kernel
theorem dX6_holds_7 : decode cX6_holds 7 = .ok (.ifnonnull 7, 3) := by decide +kernel
theorem dX6_holds_10 : decode cX6_holds 10 = .ok (.iconst (-1), 1) := by decide +kernel
theorem dX6_holds_11 : decode cX6_holds 11 = .ok (.goto 7, 3) := by decide +kernel
theorem dX6_holds_14 : decode cX6_holds 14 = .ok (.aload_n 2, 1) := by decide +kernel
theorem dX6_holds_15 : decode cX6_holds 15 = .ok (.getfield 93, 3) := by decide +kernel
theorem dX6_holds_18 : decode cX6_holds 18 = .ok (.ireturn, 1) := by decide +kernel
theorem dX6_says_0 : decode cX6_says 0 = .ok (.aload_n 0, 1) := by decide +kernel
theorem dX6_says_1 : decode cX6_says 1 = .ok (.iload_n 1, 1) := by decide +kernel
theorem dX6_says_2 : decode cX6_says 2 = .ok (.invokevirtual 62, 3) := by decide +kernel
theorem dX6_says_5 : decode cX6_says 5 = .ok (.astore_n 3, 1) := by decide +kernel
theorem dX6_says_6 : decode cX6_says 6 = .ok (.aload_n 3, 1) := by decide +kernel
theorem dX6_says_7 : decode cX6_says 7 = .ok (.ifnull 12, 3) := by decide +kernel
theorem dX6_says_10 : decode cX6_says 10 = .ok (.iload_n 2, 1) := by decide +kernel
theorem dX6_says_11 : decode cX6_says 11 = .ok (.bipush 6, 2) := by decide +kernel
theorem dX6_says_13 : decode cX6_says 13 = .ok (.invokestatic 110, 3) := by decide +kernel
theorem dX6_says_16 : decode cX6_says 16 = .ok (.ifCond .ne 9, 3) := by decide +kernel
theorem dX6_says_19 : decode cX6_says 19 = .ok (.aload_n 0, 1) := by decide +kernel
theorem dX6_says_20 : decode cX6_says 20 = .ok (.iconst (-1), 1) := by decide +kernel
theorem dX6_says_21 : decode cX6_says 21 = .ok (.invokevirtual 66, 3) := by decide +kernel
theorem dX6_says_24 : decode cX6_says 24 = .ok (.ireturn, 1) := by decide +kernel
theorem dX6_says_25 : decode cX6_says 25 = .ok (.aload_n 3, 1) := by decide +kernel
theorem dX6_says_26 : decode cX6_says 26 = .ok (.invokevirtual 86, 3) := by decide +kernel
theorem dX6_says_29 : decode cX6_says 29 = .ok (.ifCond .eq 10, 3) := by decide +kernel
theorem dX6_says_32 : decode cX6_says 32 = .ok (.aload_n 0, 1) := by decide +kernel
theorem dX6_says_33 : decode cX6_says 33 = .ok (.bipush (-2), 2) := by decide +kernel
theorem dX6_says_35 : decode cX6_says 35 = .ok (.invokevirtual 66, 3) := by decide +kernel
theorem dX6_says_38 : decode cX6_says 38 = .ok (.ireturn, 1) := by decide +kernel
theorem dX6_says_39 : decode cX6_says 39 = .ok (.aload_n 3, 1) := by decide +kernel
theorem dX6_says_40 : decode cX6_says 40 = .ok (.invokevirtual 90, 3) := by decide +kernel
theorem dX6_says_43 : decode cX6_says 43 = .ok (.ifCond .ne 10, 3) := by decide +kernel
theorem dX6_says_46 : decode cX6_says 46 = .ok (.aload_n 0, 1) := by decide +kernel
theorem dX6_says_47 : decode cX6_says 47 = .ok (.bipush (-3), 2) := by decide +kernel
theorem dX6_says_49 : decode cX6_says 49 = .ok (.invokevirtual 66, 3) := by decide +kernel
theorem dX6_says_52 : decode cX6_says 52 = .ok (.ireturn, 1) := by decide +kernel
theorem dX6_says_53 : decode cX6_says 53 = .ok (.aload_n 0, 1) := by decide +kernel
theorem dX6_says_54 : decode cX6_says 54 = .ok (.getfield 18, 3) := by decide +kernel
theorem dX6_says_57 : decode cX6_says 57 = .ok (.aload_n 3, 1) := by decide +kernel
theorem dX6_says_58 : decode cX6_says 58 = .ok (.getfield 93, 3) := by decide +kernel
theorem dX6_says_61 : decode cX6_says 61 = .ok (.invokevirtual 114, 3) := by decide +kernel
theorem dX6_says_64 : decode cX6_says 64 = .ok (.getfield 118, 3) := by decide +kernel
theorem dX6_says_67 : decode cX6_says 67 = .ok (.iload_n 2, 1) := by decide +kernel
theorem dX6_says_68 : decode cX6_says 68 = .ok (.invokestatic 123, 3) := by decide +kernel
theorem dX6_says_71 : decode cX6_says 71 = .ok (.ifCond .ne 10, 3) := by decide +kernel
theorem dX6_says_74 : decode cX6_says 74 = .ok (.aload_n 0, 1) := by decide +kernel
theorem dX6_says_75 : decode cX6_says 75 = .ok (.bipush (-2), 2) := by decide +kernel
theorem dX6_says_77 : decode cX6_says 77 = .ok (.invokevirtual 66, 3) := by decide +kernel
theorem dX6_says_80 : decode cX6_says 80 = .ok (.ireturn, 1) := by decide +kernel
theorem dX6_says_81 : decode cX6_says 81 = .ok (.aload_n 0, 1) := by decide +kernel
theorem dX6_says_82 : decode cX6_says 82 = .ok (.getfield 18, 3) := by decide +kernel
theorem dX6_says_85 : decode cX6_says 85 = .ok (.aload_n 3, 1) := by decide +kernel
theorem dX6_says_86 : decode cX6_says 86 = .ok (.getfield 93, 3) := by decide +kernel
theorem dX6_says_89 : decode cX6_says 89 = .ok (.iload_n 2, 1) := by decide +kernel
theorem dX6_says_90 : decode cX6_says 90 = .ok (.invokevirtual 126, 3) := by decide +kernel
theorem dX6_says_93 : decode cX6_says 93 = .ok (.ireturn, 1) := by decide +kernel
theorem dX6_gait_0 : decode cX6_gait 0 = .ok (.aload_n 0, 1) := by decide +kernel
theorem dX6_gait_1 : decode cX6_gait 1 = .ok (.iload_n 1, 1) := by decide +kernel
theorem dX6_gait_2 : decode cX6_gait 2 = .ok (.invokevirtual 62, 3) := by decide +kernel
theorem dX6_gait_5 : decode cX6_gait 5 = .ok (.astore 4, 2) := by decide +kernel
theorem dX6_gait_7 : decode cX6_gait 7 = .ok (.aload 4, 2) := by decide +kernel
theorem dX6_gait_9 : decode cX6_gait 9 = .ok (.invokestatic 74, 3) := by decide +kernel
theorem dX6_gait_12 : decode cX6_gait 12 = .ok (.istore 5, 2) := by decide +kernel
theorem dX6_gait_14 : decode cX6_gait 14 = .ok (.aload 4, 2) := by decide +kernel
theorem dX6_gait_16 : decode cX6_gait 16 = .ok (.ifnull 8, 3) := by decide +kernel
theorem dX6_gait_19 : decode cX6_gait 19 = .ok (.iload 5, 2) := by decide +kernel
theorem dX6_gait_21 : decode cX6_gait 21 = .ok (.ifCond .eq 10, 3) := by decide +kernel
theorem dX6_gait_24 : decode cX6_gait 24 = .ok (.aload_n 0, 1) := by decide +kernel
theorem dX6_gait_25 : decode cX6_gait 25 = .ok (.iload 5, 2) := by decide +kernel
theorem dX6_gait_27 : decode cX6_gait 27 = .ok (.invokevirtual 66, 3) := by decide +kernel
theorem dX6_gait_30 : decode cX6_gait 30 = .ok (.ireturn, 1) := by decide +kernel
theorem dX6_gait_31 : decode cX6_gait 31 = .ok (.iload_n 2, 1) := by decide +kernel
theorem dX6_gait_32 : decode cX6_gait 32 = .ok (.ifCond .ge 10, 3) := by decide +kernel
theorem dX6_gait_35 : decode cX6_gait 35 = .ok (.aload_n 0, 1) := by decide +kernel
theorem dX6_gait_36 : decode cX6_gait 36 = .ok (.bipush (-4), 2) := by decide +kernel
theorem dX6_gait_38 : decode cX6_gait 38 = .ok (.invokevirtual 66, 3) := by decide +kernel
theorem dX6_gait_41 : decode cX6_gait 41 = .ok (.ireturn, 1) := by decide +kernel
theorem dX6_gait_42 : decode cX6_gait 42 = .ok (.iload_n 2, 1) := by decide +kernel
theorem dX6_gait_43 : decode cX6_gait 43 = .ok (.aload 4, 2) := by decide +kernel
theorem dX6_gait_45 : decode cX6_gait 45 = .ok (.getfield 130, 3) := by decide +kernel
theorem dX6_gait_48 : decode cX6_gait 48 = .ok (.if_icmp .le 10, 3) := by decide +kernel
theorem dX6_gait_51 : decode cX6_gait 51 = .ok (.aload_n 0, 1) := by decide +kernel
theorem dX6_gait_52 : decode cX6_gait 52 = .ok (.bipush (-5), 2) := by decide +kernel
theorem dX6_gait_54 : decode cX6_gait 54 = .ok (.invokevirtual 66, 3) := by decide +kernel
theorem dX6_gait_57 : decode cX6_gait 57 = .ok (.ireturn, 1) := by decide +kernel
theorem dX6_gait_58 : decode cX6_gait 58 = .ok (.iload_n 2, 1) := by decide +kernel
theorem dX6_gait_59 : decode cX6_gait 59 = .ok (.iconst 1, 1) := by decide +kernel
theorem dX6_gait_60 : decode cX6_gait 60 = .ok (.if_icmp .lt 17, 3) := by decide +kernel
theorem dX6_gait_63 : decode cX6_gait 63 = .ok (.iload_n 2, 1) := by decide +kernel
theorem dX6_gait_64 : decode cX6_gait 64 = .ok (.bipush 8, 2) := by decide +kernel
theorem dX6_gait_66 : decode cX6_gait 66 = .ok (.if_icmp .gt 11, 3) := by decide +kernel
theorem dX6_gait_69 : decode cX6_gait 69 = .ok (.iload_n 3, 1) := by decide +kernel
theorem dX6_gait_70 : decode cX6_gait 70 = .ok (.iconst 2, 1) := by decide +kernel
theorem dX6_gait_71 : decode cX6_gait 71 = .ok (.invokestatic 110, 3) := by decide +kernel
theorem dX6_gait_74 : decode cX6_gait 74 = .ok (.ifCond .ne 10, 3) := by decide +kernel
theorem dX6_gait_77 : decode cX6_gait 77 = .ok (.aload_n 0, 1) := by decide +kernel
theorem dX6_gait_78 : decode cX6_gait 78 = .ok (.bipush (-6), 2) := by decide +kernel
theorem dX6_gait_80 : decode cX6_gait 80 = .ok (.invokevirtual 66, 3) := by decide +kernel
theorem dX6_gait_83 : decode cX6_gait 83 = .ok (.ireturn, 1) := by decide +kernel
theorem dX6_gait_84 : decode cX6_gait 84 = .ok (.iconst 0, 1) := by decide +kernel
theorem dX6_gait_85 : decode cX6_gait 85 = .ok (.istore 6, 2) := by decide +kernel
theorem dX6_gait_87 : decode cX6_gait 87 = .ok (.iconst 0, 1) := by decide +kernel
theorem dX6_gait_88 : decode cX6_gait 88 = .ok (.istore 7, 2) := by decide +kernel
theorem dX6_gait_90 : decode cX6_gait 90 = .ok (.iload 7, 2) := by decide +kernel
theorem dX6_gait_92 : decode cX6_gait 92 = .ok (.iload_n 2, 1) := by decide +kernel
theorem dX6_gait_93 : decode cX6_gait 93 = .ok (.if_icmp .ge 45, 3) := by decide +kernel
theorem dX6_gait_96 : decode cX6_gait 96 = .ok (.aload 4, 2) := by decide +kernel
theorem dX6_gait_98 : decode cX6_gait 98 = .ok (.iload 7, 2) := by decide +kernel
theorem dX6_gait_100 : decode cX6_gait 100 = .ok (.invokevirtual 133, 3) := by decide +kernel
theorem dX6_gait_103 : decode cX6_gait 103 = .ok (.istore 8, 2) := by decide +kernel
theorem dX6_gait_105 : decode cX6_gait 105 = .ok (.iload 8, 2) := by decide +kernel
theorem dX6_gait_107 : decode cX6_gait 107 = .ok (.iconst 3, 1) := by decide +kernel
theorem dX6_gait_108 : decode cX6_gait 108 = .ok (.invokestatic 110, 3) := by decide +kernel
theorem dX6_gait_111 : decode cX6_gait 111 = .ok (.ifCond .ne 10, 3) := by decide +kernel
theorem dX6_gait_114 : decode cX6_gait 114 = .ok (.aload_n 0, 1) := by decide +kernel
theorem dX6_gait_115 : decode cX6_gait 115 = .ok (.bipush (-6), 2) := by decide +kernel
theorem dX6_gait_117 : decode cX6_gait 117 = .ok (.invokevirtual 66, 3) := by decide +kernel
theorem dX6_gait_120 : decode cX6_gait 120 = .ok (.ireturn, 1) := by decide +kernel
theorem dX6_gait_121 : decode cX6_gait 121 = .ok (.iload 6, 2) := by decide +kernel
theorem dX6_gait_123 : decode cX6_gait 123 = .ok (.iload 7, 2) := by decide +kernel
theorem dX6_gait_125 : decode cX6_gait 125 = .ok (.iload 8, 2) := by decide +kernel
theorem dX6_gait_127 : decode cX6_gait 127 = .ok (.invokestatic 136, 3) := by decide +kernel
theorem dX6_gait_130 : decode cX6_gait 130 = .ok (.istore 6, 2) := by decide +kernel
theorem dX6_gait_132 : decode cX6_gait 132 = .ok (.iinc 7 1, 3) := by decide +kernel
theorem dX6_gait_135 : decode cX6_gait 135 = .ok (.goto (-45), 3) := by decide +kernel
theorem dX6_gait_138 : decode cX6_gait 138 = .ok (.aload_n 0, 1) := by decide +kernel
theorem dX6_gait_139 : decode cX6_gait 139 = .ok (.getfield 18, 3) := by decide +kernel
theorem dX6_gait_142 : decode cX6_gait 142 = .ok (.invokevirtual 142, 3) := by decide +kernel
theorem dX6_gait_145 : decode cX6_gait 145 = .ok (.ifCond .eq 17, 3) := by decide +kernel
theorem dX6_gait_148 : decode cX6_gait 148 = .ok (.aload_n 0, 1) := by decide +kernel
theorem dX6_gait_149 : decode cX6_gait 149 = .ok (.getfield 18, 3) := by decide +kernel
theorem dX6_gait_152 : decode cX6_gait 152 = .ok (.iload_n 2, 1) := by decide +kernel
theorem dX6_gait_153 : decode cX6_gait 153 = .ok (.iload_n 3, 1) := by decide +kernel
theorem dX6_gait_154 : decode cX6_gait 154 = .ok (.iload 6, 2) := by decide +kernel
theorem dX6_gait_156 : decode cX6_gait 156 = .ok (.invokevirtual 145, 3) := by decide +kernel
theorem dX6_gait_159 : decode cX6_gait 159 = .ok (.goto 9, 3) := by decide +kernel
theorem dX6_gait_162 : decode cX6_gait 162 = .ok (.aload_n 0, 1) := by decide +kernel
theorem dX6_gait_163 : decode cX6_gait 163 = .ok (.bipush (-7), 2) := by decide +kernel
theorem dX6_gait_165 : decode cX6_gait 165 = .ok (.invokevirtual 66, 3) := by decide +kernel
theorem dX6_gait_168 : decode cX6_gait 168 = .ok (.ireturn, 1) := by decide +kernel
theorem dX6_gaitOf_0 : decode cX6_gaitOf 0 = .ok (.aload_n 0, 1) := by decide +kernel
theorem dX6_gaitOf_1 : decode cX6_gaitOf 1 = .ok (.getfield 18, 3) := by decide +kernel
theorem dX6_gaitOf_4 : decode cX6_gaitOf 4 = .ok (.iload_n 1, 1) := by decide +kernel
theorem dX6_gaitOf_5 : decode cX6_gaitOf 5 = .ok (.invokevirtual 148, 3) := by decide +kernel
theorem dX6_gaitOf_8 : decode cX6_gaitOf 8 = .ok (.astore_n 3, 1) := by decide +kernel
theorem dX6_gaitOf_9 : decode cX6_gaitOf 9 = .ok (.aload_n 0, 1) := by decide +kernel
theorem dX6_gaitOf_10 : decode cX6_gaitOf 10 = .ok (.getfield 18, 3) := by decide +kernel
theorem dX6_gaitOf_13 : decode cX6_gaitOf 13 = .ok (.iload_n 1, 1) := by decide +kernel
theorem dX6_gaitOf_14 : decode cX6_gaitOf 14 = .ok (.invokevirtual 152, 3) := by decide +kernel
theorem dX6_gaitOf_17 : decode cX6_gaitOf 17 = .ok (.ifCond .eq 17, 3) := by decide +kernel
theorem dX6_gaitOf_20 : decode cX6_gaitOf 20 = .ok (.iload_n 2, 1) := by decide +kernel
theorem dX6_gaitOf_21 : decode cX6_gaitOf 21 = .ok (.bipush (-2), 2) := by decide +kernel
theorem dX6_gaitOf_23 : decode cX6_gaitOf 23 = .ok (.if_icmp .lt 11, 3) := by decide +kernel
theorem dX6_gaitOf_26 : decode cX6_gaitOf 26 = .ok (.iload_n 2, 1) := by decide +kernel
theorem dX6_gaitOf_27 : decode cX6_gaitOf 27 = .ok (.aload_n 3, 1) := by decide +kernel
theorem dX6_gaitOf_28 : decode cX6_gaitOf 28 = .ok (.getfield 155, 3) := by decide +kernel
theorem dX6_gaitOf_31 : decode cX6_gaitOf 31 = .ok (.if_icmp .lt 10, 3) := by decide +kernel
theorem dX6_gaitOf_34 : decode cX6_gaitOf 34 = .ok (.aload_n 0, 1) := by decide +kernel
theorem dX6_gaitOf_35 : decode cX6_gaitOf 35 = .ok (.bipush (-15), 2) := by decide +kernel
theorem dX6_gaitOf_37 : decode cX6_gaitOf 37 = .ok (.invokevirtual 66, 3) := by decide +kernel
theorem dX6_gaitOf_40 : decode cX6_gaitOf 40 = .ok (.ireturn, 1) := by decide +kernel
theorem dX6_gaitOf_41 : decode cX6_gaitOf 41 = .ok (.iload_n 2, 1) := by decide +kernel
theorem dX6_gaitOf_42 : decode cX6_gaitOf 42 = .ok (.iconst (-1), 1) := by decide +kernel
theorem dX6_gaitOf_43 : decode cX6_gaitOf 43 = .ok (.if_icmp .ne 8, 3) := by decide +kernel
theorem dX6_gaitOf_46 : decode cX6_gaitOf 46 = .ok (.aload_n 3, 1) := by decide +kernel
theorem dX6_gaitOf_47 : decode cX6_gaitOf 47 = .ok (.getfield 155, 3) := by decide +kernel
theorem dX6_gaitOf_50 : decode cX6_gaitOf 50 = .ok (.ireturn, 1) := by decide +kernel
theorem dX6_gaitOf_51 : decode cX6_gaitOf 51 = .ok (.iload_n 2, 1) := by decide +kernel
theorem dX6_gaitOf_52 : decode cX6_gaitOf 52 = .ok (.ifCond .ge 10, 3) := by decide +kernel
theorem dX6_gaitOf_55 : decode cX6_gaitOf 55 = .ok (.aload_n 3, 1) := by decide +kernel
theorem dX6_gaitOf_56 : decode cX6_gaitOf 56 = .ok (.getfield 158, 3) := by decide +kernel
theorem dX6_gaitOf_59 : decode cX6_gaitOf 59 = .ok (.goto 8, 3) := by decide +kernel
theorem dX6_gaitOf_62 : decode cX6_gaitOf 62 = .ok (.aload_n 3, 1) := by decide +kernel
theorem dX6_gaitOf_63 : decode cX6_gaitOf 63 = .ok (.iload_n 2, 1) := by decide +kernel
theorem dX6_gaitOf_64 : decode cX6_gaitOf 64 = .ok (.invokevirtual 161, 3) := by decide +kernel
theorem dX6_gaitOf_67 : decode cX6_gaitOf 67 = .ok (.ireturn, 1) := by decide +kernel
theorem dX6_walker_0 : decode cX6_walker 0 = .ok (.iload_n 1, 1) := by decide +kernel
theorem dX6_walker_1 : decode cX6_walker 1 = .ok (.bipush 6, 2) := by decide +kernel
theorem dX6_walker_3 : decode cX6_walker 3 = .ok (.invokestatic 110, 3) := by decide +kernel
theorem dX6_walker_6 : decode cX6_walker 6 = .ok (.ifCond .eq 15, 3) := by decide +kernel
theorem dX6_walker_9 : decode cX6_walker 9 = .ok (.aload_n 0, 1) := by decide +kernel
theorem dX6_walker_10 : decode cX6_walker 10 = .ok (.getfield 18, 3) := by decide +kernel
theorem dX6_walker_13 : decode cX6_walker 13 = .ok (.iload 4, 2) := by decide +kernel
theorem dX6_walker_15 : decode cX6_walker 15 = .ok (.invokevirtual 152, 3) := by decide +kernel
theorem dX6_walker_18 : decode cX6_walker 18 = .ok (.ifCond .ne 9, 3) := by decide +kernel
theorem dX6_walker_21 : decode cX6_walker 21 = .ok (.aload_n 0, 1) := by decide +kernel
theorem dX6_walker_22 : decode cX6_walker 22 = .ok (.iconst (-1), 1) := by decide +kernel
theorem dX6_walker_23 : decode cX6_walker 23 = .ok (.invokevirtual 66, 3) := by decide +kernel
theorem dX6_walker_26 : decode cX6_walker 26 = .ok (.ireturn, 1) := by decide +kernel
theorem dX6_walker_27 : decode cX6_walker 27 = .ok (.iload_n 2, 1) := by decide +kernel
theorem dX6_walker_28 : decode cX6_walker 28 = .ok (.bipush 48, 2) := by decide +kernel
theorem dX6_walker_30 : decode cX6_walker 30 = .ok (.invokestatic 110, 3) := by decide +kernel
theorem dX6_walker_33 : decode cX6_walker 33 = .ok (.ifCond .eq 32, 3) := by decide +kernel
theorem dX6_walker_36 : decode cX6_walker 36 = .ok (.iload_n 3, 1) := by decide +kernel
theorem dX6_walker_37 : decode cX6_walker 37 = .ok (.iconst 3, 1) := by decide +kernel
theorem dX6_walker_38 : decode cX6_walker 38 = .ok (.invokestatic 110, 3) := by decide +kernel
theorem dX6_walker_41 : decode cX6_walker 41 = .ok (.ifCond .eq 24, 3) := by decide +kernel
theorem dX6_walker_44 : decode cX6_walker 44 = .ok (.iload 5, 2) := by decide +kernel
theorem dX6_walker_46 : decode cX6_walker 46 = .ok (.bipush 9, 2) := by decide +kernel
theorem dX6_walker_48 : decode cX6_walker 48 = .ok (.invokestatic 110, 3) := by decide +kernel
theorem dX6_walker_51 : decode cX6_walker 51 = .ok (.ifCond .eq 14, 3) := by decide +kernel
theorem dX6_walker_54 : decode cX6_walker 54 = .ok (.aload_n 0, 1) := by decide +kernel
theorem dX6_walker_55 : decode cX6_walker 55 = .ok (.getfield 18, 3) := by decide +kernel
theorem dX6_walker_58 : decode cX6_walker 58 = .ok (.iload_n 2, 1) := by decide +kernel
theorem dX6_walker_59 : decode cX6_walker 59 = .ok (.invokevirtual 164, 3) := by decide +kernel
theorem dX6_walker_62 : decode cX6_walker 62 = .ok (.ifCond .eq 10, 3) := by decide +kernel
theorem dX6_walker_65 : decode cX6_walker 65 = .ok (.aload_n 0, 1) := by decide +kernel
theorem dX6_walker_66 : decode cX6_walker 66 = .ok (.bipush (-6), 2) := by decide +kernel
theorem dX6_walker_68 : decode cX6_walker 68 = .ok (.invokevirtual 66, 3) := by decide +kernel
theorem dX6_walker_71 : decode cX6_walker 71 = .ok (.ireturn, 1) := by decide +kernel
theorem dX6_walker_72 : decode cX6_walker 72 = .ok (.aload_n 0, 1) := by decide +kernel
theorem dX6_walker_73 : decode cX6_walker 73 = .ok (.getfield 18, 3) := by decide +kernel
theorem dX6_walker_76 : decode cX6_walker 76 = .ok (.invokevirtual 167, 3) := by decide +kernel
theorem dX6_walker_79 : decode cX6_walker 79 = .ok (.ifCond .eq 20, 3) := by decide +kernel
theorem dX6_walker_82 : decode cX6_walker 82 = .ok (.aload_n 0, 1) := by decide +kernel
theorem dX6_walker_83 : decode cX6_walker 83 = .ok (.getfield 18, 3) := by decide +kernel
theorem dX6_walker_86 : decode cX6_walker 86 = .ok (.iload_n 1, 1) := by decide +kernel
theorem dX6_walker_87 : decode cX6_walker 87 = .ok (.iload_n 2, 1) := by decide +kernel
theorem dX6_walker_88 : decode cX6_walker 88 = .ok (.iload_n 3, 1) := by decide +kernel
theorem dX6_walker_89 : decode cX6_walker 89 = .ok (.iload 4, 2) := by decide +kernel
theorem dX6_walker_91 : decode cX6_walker 91 = .ok (.iload 5, 2) := by decide +kernel
theorem dX6_walker_93 : decode cX6_walker 93 = .ok (.invokevirtual 170, 3) := by decide +kernel
theorem dX6_walker_96 : decode cX6_walker 96 = .ok (.goto 9, 3) := by decide +kernel
theorem dX6_walker_99 : decode cX6_walker 99 = .ok (.aload_n 0, 1) := by decide +kernel
theorem dX6_walker_100 : decode cX6_walker 100 = .ok (.bipush (-7), 2) := by decide +kernel
theorem dX6_walker_102 : decode cX6_walker 102 = .ok (.invokevirtual 66, 3) := by decide +kernel
theorem dX6_walker_105 : decode cX6_walker 105 = .ok (.ireturn, 1) := by decide +kernel
theorem dX6_walkerOf_0 : decode cX6_walkerOf 0 = .ok (.aload_n 0, 1) := by decide +kernel
theorem dX6_walkerOf_1 : decode cX6_walkerOf 1 = .ok (.getfield 18, 3) := by decide +kernel
theorem dX6_walkerOf_4 : decode cX6_walkerOf 4 = .ok (.iload_n 1, 1) := by decide +kernel
theorem dX6_walkerOf_5 : decode cX6_walkerOf 5 = .ok (.invokevirtual 104, 3) := by decide +kernel
theorem dX6_walkerOf_8 : decode cX6_walkerOf 8 = .ok (.ifCond .eq 12, 3) := by decide +kernel
theorem dX6_walkerOf_11 : decode cX6_walkerOf 11 = .ok (.iload_n 2, 1) := by decide +kernel
theorem dX6_walkerOf_12 : decode cX6_walkerOf 12 = .ok (.bipush 6, 2) := by decide +kernel
theorem dX6_walkerOf_14 : decode cX6_walkerOf 14 = .ok (.invokestatic 110, 3) := by decide +kernel
theorem dX6_walkerOf_17 : decode cX6_walkerOf 17 = .ok (.ifCond .ne 10, 3) := by decide +kernel
theorem dX6_walkerOf_20 : decode cX6_walkerOf 20 = .ok (.aload_n 0, 1) := by decide +kernel
theorem dX6_walkerOf_21 : decode cX6_walkerOf 21 = .ok (.bipush (-5), 2) := by decide +kernel
theorem dX6_walkerOf_23 : decode cX6_walkerOf 23 = .ok (.invokevirtual 66, 3) := by decide +kernel
theorem dX6_walkerOf_26 : decode cX6_walkerOf 26 = .ok (.ireturn, 1) := by decide +kernel
theorem dX6_walkerOf_27 : decode cX6_walkerOf 27 = .ok (.aload_n 0, 1) := by decide +kernel
theorem dX6_walkerOf_28 : decode cX6_walkerOf 28 = .ok (.getfield 18, 3) := by decide +kernel
theorem dX6_walkerOf_31 : decode cX6_walkerOf 31 = .ok (.iload_n 1, 1) := by decide +kernel
theorem dX6_walkerOf_32 : decode cX6_walkerOf 32 = .ok (.invokevirtual 114, 3) := by decide +kernel
theorem dX6_walkerOf_35 : decode cX6_walkerOf 35 = .ok (.iload_n 2, 1) := by decide +kernel
theorem dX6_walkerOf_36 : decode cX6_walkerOf 36 = .ok (.invokevirtual 174, 3) := by decide +kernel
theorem dX6_walkerOf_39 : decode cX6_walkerOf 39 = .ok (.ireturn, 1) := by decide +kernel
theorem dX6_wall_0 : decode cX6_wall 0 = .ok (.iload_n 1, 1) := by decide +kernel
theorem dX6_wall_1 : decode cX6_wall 1 = .ok (.bipush 48, 2) := by decide +kernel
theorem dX6_wall_3 : decode cX6_wall 3 = .ok (.invokestatic 110, 3) := by decide +kernel
theorem dX6_wall_6 : decode cX6_wall 6 = .ok (.ifCond .eq 18, 3) := by decide +kernel
theorem dX6_wall_9 : decode cX6_wall 9 = .ok (.iload_n 2, 1) := by decide +kernel
theorem dX6_wall_10 : decode cX6_wall 10 = .ok (.ifCond .eq 21, 3) := by decide +kernel
theorem dX6_wall_13 : decode cX6_wall 13 = .ok (.aload_n 0, 1) := by decide +kernel
theorem dX6_wall_14 : decode cX6_wall 14 = .ok (.getfield 18, 3) := by decide +kernel
theorem dX6_wall_17 : decode cX6_wall 17 = .ok (.iload_n 1, 1) := by decide +kernel
theorem dX6_wall_18 : decode cX6_wall 18 = .ok (.invokevirtual 177, 3) := by decide +kernel
theorem dX6_wall_21 : decode cX6_wall 21 = .ok (.ifCond .eq 10, 3) := by decide +kernel
theorem dX6_wall_24 : decode cX6_wall 24 = .ok (.aload_n 0, 1) := by decide +kernel
theorem dX6_wall_25 : decode cX6_wall 25 = .ok (.bipush (-6), 2) := by decide +kernel
theorem dX6_wall_27 : decode cX6_wall 27 = .ok (.invokevirtual 66, 3) := by decide +kernel
theorem dX6_wall_30 : decode cX6_wall 30 = .ok (.ireturn, 1) := by decide +kernel
theorem dX6_wall_31 : decode cX6_wall 31 = .ok (.aload_n 0, 1) := by decide +kernel
theorem dX6_wall_32 : decode cX6_wall 32 = .ok (.getfield 18, 3) := by decide +kernel
theorem dX6_wall_35 : decode cX6_wall 35 = .ok (.iload_n 1, 1) := by decide +kernel
theorem dX6_wall_36 : decode cX6_wall 36 = .ok (.invokevirtual 164, 3) := by decide +kernel
theorem dX6_wall_39 : decode cX6_wall 39 = .ok (.iload_n 2, 1) := by decide +kernel
theorem dX6_wall_40 : decode cX6_wall 40 = .ok (.if_icmp .ne 5, 3) := by decide +kernel
theorem dX6_wall_43 : decode cX6_wall 43 = .ok (.iconst 0, 1) := by decide +kernel
theorem dX6_wall_44 : decode cX6_wall 44 = .ok (.ireturn, 1) := by decide +kernel
theorem dX6_wall_45 : decode cX6_wall 45 = .ok (.aload_n 0, 1) := by decide +kernel
theorem dX6_wall_46 : decode cX6_wall 46 = .ok (.getfield 18, 3) := by decide +kernel
theorem dX6_wall_49 : decode cX6_wall 49 = .ok (.iload_n 1, 1) := by decide +kernel
theorem dX6_wall_50 : decode cX6_wall 50 = .ok (.iload_n 2, 1) := by decide +kernel
theorem dX6_wall_51 : decode cX6_wall 51 = .ok (.invokevirtual 180, 3) := by decide +kernel
theorem dX6_wall_54 : decode cX6_wall 54 = .ok (.iconst 1, 1) := by decide +kernel
theorem dX6_wall_55 : decode cX6_wall 55 = .ok (.ireturn, 1) := by decide +kernel
theorem dX6_isWall_0 : decode cX6_isWall 0 = .ok (.iload_n 1, 1) := by decide +kernel
theorem dX6_isWall_1 : decode cX6_isWall 1 = .ok (.bipush 48, 2) := by decide +kernel
theorem dX6_isWall_3 : decode cX6_isWall 3 = .ok (.invokestatic 110, 3) := by decide +kernel
theorem dX6_isWall_6 : decode cX6_isWall 6 = .ok (.ifCond .ne 10, 3) := by decide +kernel
theorem dX6_isWall_9 : decode cX6_isWall 9 = .ok (.aload_n 0, 1) := by decide +kernel
theorem dX6_isWall_10 : decode cX6_isWall 10 = .ok (.bipush (-5), 2) := by decide +kernel
theorem dX6_isWall_12 : decode cX6_isWall 12 = .ok (.invokevirtual 66, 3) := by decide +kernel
theorem dX6_isWall_15 : decode cX6_isWall 15 = .ok (.ireturn, 1) := by decide +kernel
theorem dX6_isWall_16 : decode cX6_isWall 16 = .ok (.aload_n 0, 1) := by decide +kernel
theorem dX6_isWall_17 : decode cX6_isWall 17 = .ok (.getfield 18, 3) := by decide +kernel
theorem dX6_isWall_20 : decode cX6_isWall 20 = .ok (.iload_n 1, 1) := by decide +kernel
theorem dX6_isWall_21 : decode cX6_isWall 21 = .ok (.invokevirtual 164, 3) := by decide +kernel
theorem dX6_isWall_24 : decode cX6_isWall 24 = .ok (.ifCond .eq 7, 3) := by decide +kernel
theorem dX6_isWall_27 : decode cX6_isWall 27 = .ok (.iconst 1, 1) := by decide +kernel
theorem dX6_isWall_28 : decode cX6_isWall 28 = .ok (.goto 4, 3) := by decide +kernel
theorem dX6_isWall_31 : decode cX6_isWall 31 = .ok (.iconst 0, 1) := by decide +kernel
theorem dX6_isWall_32 : decode cX6_isWall 32 = .ok (.ireturn, 1) := by decide +kernel
theorem dX6_streets_0 : decode cX6_streets 0 = .ok (.aload_n 0, 1) := by decide +kernel
theorem dX6_streets_1 : decode cX6_streets 1 = .ok (.iload_n 1, 1) := by decide +kernel
theorem dX6_streets_2 : decode cX6_streets 2 = .ok (.invokevirtual 62, 3) := by decide +kernel
theorem dX6_streets_5 : decode cX6_streets 5 = .ok (.astore_n 2, 1) := by decide +kernel
theorem dX6_streets_6 : decode cX6_streets 6 = .ok (.aload_n 2, 1) := by decide +kernel
theorem dX6_streets_7 : decode cX6_streets 7 = .ok (.invokestatic 74, 3) := by decide +kernel
theorem dX6_streets_10 : decode cX6_streets 10 = .ok (.istore_n 3, 1) := by decide +kernel
theorem dX6_streets_11 : decode cX6_streets 11 = .ok (.aload_n 2, 1) := by decide +kernel
theorem dX6_streets_12 : decode cX6_streets 12 = .ok (.ifnull 7, 3) := by decide +kernel
theorem dX6_streets_15 : decode cX6_streets 15 = .ok (.iload_n 3, 1) := by decide +kernel
theorem dX6_streets_16 : decode cX6_streets 16 = .ok (.ifCond .eq 9, 3) := by decide +kernel
theorem dX6_streets_19 : decode cX6_streets 19 = .ok (.aload_n 0, 1) := by decide +kernel
theorem dX6_streets_20 : decode cX6_streets 20 = .ok (.iload_n 3, 1) := by decide +kernel
theorem dX6_streets_21 : decode cX6_streets 21 = .ok (.invokevirtual 66, 3) := by decide +kernel
theorem dX6_streets_24 : decode cX6_streets 24 = .ok (.ireturn, 1) := by decide +kernel
theorem dX6_streets_25 : decode cX6_streets 25 = .ok (.aload_n 0, 1) := by decide +kernel
theorem dX6_streets_26 : decode cX6_streets 26 = .ok (.getfield 31, 3) := by decide +kernel
theorem dX6_streets_29 : decode cX6_streets 29 = .ok (.aload_n 2, 1) := by decide +kernel
theorem dX6_streets_30 : decode cX6_streets 30 = .ok (.aload_n 0, 1) := by decide +kernel
theorem dX6_streets_31 : decode cX6_streets 31 = .ok (.getfield 18, 3) := by decide +kernel
theorem dX6_streets_34 : decode cX6_streets 34 = .ok (.invokevirtual 184, 3) := by decide +kernel
theorem dX6_streets_37 : decode cX6_streets 37 = .ok (.iconst 1, 1) := by decide +kernel
theorem dX6_streets_38 : decode cX6_streets 38 = .ok (.istore 4, 2) := by decide +kernel
theorem dX6_streets_40 : decode cX6_streets 40 = .ok (.iload 4, 2) := by decide +kernel
theorem dX6_streets_42 : decode cX6_streets 42 = .ok (.sipush 160, 3) := by decide +kernel
theorem dX6_streets_45 : decode cX6_streets 45 = .ok (.if_icmp .ge 19, 3) := by decide +kernel
theorem dX6_streets_48 : decode cX6_streets 48 = .ok (.aload_n 0, 1) := by decide +kernel
theorem dX6_streets_49 : decode cX6_streets 49 = .ok (.getfield 31, 3) := by decide +kernel
theorem dX6_streets_52 : decode cX6_streets 52 = .ok (.invokevirtual 188, 3) := by decide +kernel
theorem dX6_streets_55 : decode cX6_streets 55 = .ok (.ifCond .eq 9, 3) := by decide +kernel
theorem dX6_streets_58 : decode cX6_streets 58 = .ok (.iinc 4 1, 3) := by decide +kernel
theorem dX6_streets_61 : decode cX6_streets 61 = .ok (.goto (-21), 3) := by decide +kernel
theorem dX6_streets_64 : decode cX6_streets 64 = .ok (.aload_n 0, 1) := by decide +kernel
theorem dX6_streets_65 : decode cX6_streets 65 = .ok (.getfield 31, 3) := by decide +kernel
theorem dX6_streets_68 : decode cX6_streets 68 = .ok (.getfield 191, 3) := by decide +kernel
theorem dX6_streets_71 : decode cX6_streets 71 = .ok (.ifCond .ne 21, 3) := by decide +kernel
theorem dX6_streets_74 : decode cX6_streets 74 = .ok (.aload_n 0, 1) := by decide +kernel
theorem dX6_streets_75 : decode cX6_streets 75 = .ok (.aload_n 0, 1) := by decide +kernel
theorem dX6_streets_76 : decode cX6_streets 76 = .ok (.getfield 31, 3) := by decide +kernel
theorem dX6_streets_79 : decode cX6_streets 79 = .ok (.getfield 194, 3) := by decide +kernel
theorem dX6_streets_82 : decode cX6_streets 82 = .ok (.putfield 57, 3) := by decide +kernel
theorem dX6_streets_85 : decode cX6_streets 85 = .ok (.aload_n 0, 1) := by decide +kernel
theorem dX6_streets_86 : decode cX6_streets 86 = .ok (.bipush (-6), 2) := by decide +kernel
theorem dX6_streets_88 : decode cX6_streets 88 = .ok (.invokevirtual 66, 3) := by decide +kernel
theorem dX6_streets_91 : decode cX6_streets 91 = .ok (.ireturn, 1) := by decide +kernel
theorem dX6_streets_92 : decode cX6_streets 92 = .ok (.aload_n 0, 1) := by decide +kernel
theorem dX6_streets_93 : decode cX6_streets 93 = .ok (.getfield 18, 3) := by decide +kernel
theorem dX6_streets_96 : decode cX6_streets 96 = .ok (.aload_n 0, 1) := by decide +kernel
theorem dX6_streets_97 : decode cX6_streets 97 = .ok (.getfield 31, 3) := by decide +kernel
theorem dX6_streets_100 : decode cX6_streets 100 = .ok (.getfield 197, 3) := by decide +kernel
theorem dX6_streets_103 : decode cX6_streets 103 = .ok (.invokevirtual 200, 3) := by decide +kernel
theorem dX6_streets_106 : decode cX6_streets 106 = .ok (.aload_n 0, 1) := by decide +kernel
theorem dX6_streets_107 : decode cX6_streets 107 = .ok (.iconst (-1), 1) := by decide +kernel
theorem dX6_streets_108 : decode cX6_streets 108 = .ok (.putfield 57, 3) := by decide +kernel
theorem dX6_streets_111 : decode cX6_streets 111 = .ok (.iload 4, 2) := by decide +kernel
theorem dX6_streets_113 : decode cX6_streets 113 = .ok (.ireturn, 1) := by decide +kernel
theorem dX6_fault_0 : decode cX6_fault 0 = .ok (.aload_n 0, 1) := by decide +kernel
theorem dX6_fault_1 : decode cX6_fault 1 = .ok (.getfield 57, 3) := by decide +kernel
theorem dX6_fault_4 : decode cX6_fault 4 = .ok (.ireturn, 1) := by decide +kernel
theorem dX6_at_0 : decode cX6_at 0 = .ok (.aload_n 0, 1) := by decide +kernel
theorem dX6_at_1 : decode cX6_at 1 = .ok (.iload_n 1, 1) := by decide +kernel
theorem dX6_at_2 : decode cX6_at 2 = .ok (.iload_n 2, 1) := by decide +kernel
theorem dX6_at_3 : decode cX6_at 3 = .ok (.iload_n 3, 1) := by decide +kernel
theorem dX6_at_4 : decode cX6_at 4 = .ok (.invokevirtual 204, 3) := by decide +kernel
theorem dX6_at_7 : decode cX6_at 7 = .ok (.istore 4, 2) := by decide +kernel
theorem dX6_at_9 : decode cX6_at 9 = .ok (.iload 4, 2) := by decide +kernel
theorem dX6_at_11 : decode cX6_at 11 = .ok (.ifCond .eq 10, 3) := by decide +kernel
theorem dX6_at_14 : decode cX6_at 14 = .ok (.aload_n 0, 1) := by decide +kernel
theorem dX6_at_15 : decode cX6_at 15 = .ok (.iload 4, 2) := by decide +kernel
theorem dX6_at_17 : decode cX6_at 17 = .ok (.invokevirtual 66, 3) := by decide +kernel
theorem dX6_at_20 : decode cX6_at 20 = .ok (.ireturn, 1) := by decide +kernel
theorem dX6_at_21 : decode cX6_at 21 = .ok (.aload_n 0, 1) := by decide +kernel
theorem dX6_at_22 : decode cX6_at 22 = .ok (.iload_n 1, 1) := by decide +kernel
theorem dX6_at_23 : decode cX6_at 23 = .ok (.invokevirtual 207, 3) := by decide +kernel
theorem dX6_at_26 : decode cX6_at 26 = .ok (.pop, 1) := by decide +kernel
theorem dX6_at_27 : decode cX6_at 27 = .ok (.aload_n 0, 1) := by decide +kernel
theorem dX6_at_28 : decode cX6_at 28 = .ok (.getfield 22, 3) := by decide +kernel
theorem dX6_at_31 : decode cX6_at 31 = .ok (.iload_n 2, 1) := by decide +kernel
theorem dX6_at_32 : decode cX6_at 32 = .ok (.invokevirtual 114, 3) := by decide +kernel
theorem dX6_at_35 : decode cX6_at 35 = .ok (.iload_n 3, 1) := by decide +kernel
theorem dX6_at_36 : decode cX6_at 36 = .ok (.iconst 1, 1) := by decide +kernel
theorem dX6_at_37 : decode cX6_at 37 = .ok (.iadd, 1) := by decide +kernel
theorem dX6_at_38 : decode cX6_at 38 = .ok (.invokevirtual 174, 3) := by decide +kernel
theorem dX6_at_41 : decode cX6_at 41 = .ok (.ireturn, 1) := by decide +kernel
theorem dX6_have_0 : decode cX6_have 0 = .ok (.aload_n 0, 1) := by decide +kernel
theorem dX6_have_1 : decode cX6_have 1 = .ok (.getfield 18, 3) := by decide +kernel
theorem dX6_have_4 : decode cX6_have 4 = .ok (.iload_n 2, 1) := by decide +kernel
theorem dX6_have_5 : decode cX6_have 5 = .ok (.invokevirtual 152, 3) := by decide +kernel
theorem dX6_have_8 : decode cX6_have 8 = .ok (.ifCond .ne 9, 3) := by decide +kernel
theorem dX6_have_11 : decode cX6_have 11 = .ok (.aload_n 0, 1) := by decide +kernel
theorem dX6_have_12 : decode cX6_have 12 = .ok (.iconst (-1), 1) := by decide +kernel
theorem dX6_have_13 : decode cX6_have 13 = .ok (.invokevirtual 66, 3) := by decide +kernel
theorem dX6_have_16 : decode cX6_have 16 = .ok (.ireturn, 1) := by decide +kernel
theorem dX6_have_17 : decode cX6_have 17 = .ok (.iload_n 1, 1) := by decide +kernel
theorem dX6_have_18 : decode cX6_have 18 = .ok (.sipush 400, 3) := by decide +kernel
theorem dX6_have_21 : decode cX6_have 21 = .ok (.invokestatic 110, 3) := by decide +kernel
theorem dX6_have_24 : decode cX6_have 24 = .ok (.ifCond .ne 10, 3) := by decide +kernel
theorem dX6_have_27 : decode cX6_have 27 = .ok (.aload_n 0, 1) := by decide +kernel
theorem dX6_have_28 : decode cX6_have 28 = .ok (.bipush (-6), 2) := by decide +kernel
theorem dX6_have_30 : decode cX6_have 30 = .ok (.invokevirtual 66, 3) := by decide +kernel
theorem dX6_have_33 : decode cX6_have 33 = .ok (.ireturn, 1) := by decide +kernel
theorem dX6_have_34 : decode cX6_have 34 = .ok (.aload_n 0, 1) := by decide +kernel
theorem dX6_have_35 : decode cX6_have 35 = .ok (.iload_n 1, 1) := by decide +kernel
theorem dX6_have_36 : decode cX6_have 36 = .ok (.invokevirtual 207, 3) := by decide +kernel
theorem dX6_have_39 : decode cX6_have 39 = .ok (.pop, 1) := by decide +kernel
theorem dX6_have_40 : decode cX6_have 40 = .ok (.aload_n 0, 1) := by decide +kernel
theorem dX6_have_41 : decode cX6_have 41 = .ok (.getfield 22, 3) := by decide +kernel
theorem dX6_have_44 : decode cX6_have 44 = .ok (.iload_n 2, 1) := by decide +kernel
theorem dX6_have_45 : decode cX6_have 45 = .ok (.invokevirtual 210, 3) := by decide +kernel
theorem dX6_have_48 : decode cX6_have 48 = .ok (.ireturn, 1) := by decide +kernel
theorem dX6_survives_0 : decode cX6_survives 0 = .ok (.iload_n 1, 1) := by decide +kernel
theorem dX6_survives_1 : decode cX6_survives 1 = .ok (.sipush 400, 3) := by decide +kernel
theorem dX6_survives_4 : decode cX6_survives 4 = .ok (.invokestatic 110, 3) := by decide +kernel
theorem dX6_survives_7 : decode cX6_survives 7 = .ok (.ifCond .ne 10, 3) := by decide +kernel
theorem dX6_survives_10 : decode cX6_survives 10 = .ok (.aload_n 0, 1) := by decide +kernel
theorem dX6_survives_11 : decode cX6_survives 11 = .ok (.bipush (-6), 2) := by decide +kernel
theorem dX6_survives_13 : decode cX6_survives 13 = .ok (.invokevirtual 66, 3) := by decide +kernel
theorem dX6_survives_16 : decode cX6_survives 16 = .ok (.ireturn, 1) := by decide +kernel
theorem dX6_survives_17 : decode cX6_survives 17 = .ok (.aload_n 0, 1) := by decide +kernel
theorem dX6_survives_18 : decode cX6_survives 18 = .ok (.iload_n 1, 1) := by decide +kernel
theorem dX6_survives_19 : decode cX6_survives 19 = .ok (.invokevirtual 207, 3) := by decide +kernel
theorem dX6_survives_22 : decode cX6_survives 22 = .ok (.pop, 1) := by decide +kernel
theorem dX6_survives_23 : decode cX6_survives 23 = .ok (.iconst 0, 1) := by decide +kernel
theorem dX6_survives_24 : decode cX6_survives 24 = .ok (.istore_n 2, 1) := by decide +kernel
theorem dX6_survives_25 : decode cX6_survives 25 = .ok (.iconst 0, 1) := by decide +kernel
theorem dX6_survives_26 : decode cX6_survives 26 = .ok (.istore_n 3, 1) := by decide +kernel
theorem dX6_survives_27 : decode cX6_survives 27 = .ok (.iload_n 3, 1) := by decide +kernel
theorem dX6_survives_28 : decode cX6_survives 28 = .ok (.aload_n 0, 1) := by decide +kernel
theorem dX6_survives_29 : decode cX6_survives 29 = .ok (.getfield 22, 3) := by decide +kernel
theorem dX6_survives_32 : decode cX6_survives 32 = .ok (.getfield 213, 3) := by decide +kernel
theorem dX6_survives_35 : decode cX6_survives 35 = .ok (.if_icmp .ge 25, 3) := by decide +kernel
theorem dX6_survives_38 : decode cX6_survives 38 = .ok (.iload_n 2, 1) := by decide +kernel
theorem dX6_survives_39 : decode cX6_survives 39 = .ok (.iconst 1, 1) := by decide +kernel
theorem dX6_survives_40 : decode cX6_survives 40 = .ok (.aload_n 0, 1) := by decide +kernel
theorem dX6_survives_41 : decode cX6_survives 41 = .ok (.getfield 22, 3) := by decide +kernel
theorem dX6_survives_44 : decode cX6_survives 44 = .ok (.iload_n 3, 1) := by decide +kernel
theorem dX6_survives_45 : decode cX6_survives 45 = .ok (.invokevirtual 114, 3) := by decide +kernel
theorem dX6_survives_48 : decode cX6_survives 48 = .ok (.getfield 216, 3) := by decide +kernel
theorem dX6_survives_51 : decode cX6_survives 51 = .ok (.ishl, 1) := by decide +kernel
theorem dX6_survives_52 : decode cX6_survives 52 = .ok (.ior, 1) := by decide +kernel
theorem dX6_survives_53 : decode cX6_survives 53 = .ok (.istore_n 2, 1) := by decide +kernel
theorem dX6_survives_54 : decode cX6_survives 54 = .ok (.iinc 3 1, 3) := by decide +kernel
theorem dX6_survives_57 : decode cX6_survives 57 = .ok (.goto (-30), 3) := by decide +kernel
theorem dX6_survives_60 : decode cX6_survives 60 = .ok (.iload_n 2, 1) := by decide +kernel
theorem dX6_survives_61 : decode cX6_survives 61 = .ok (.ireturn, 1) := by decide +kernel
theorem dX6_lost_0 : decode cX6_lost 0 = .ok (.aload_n 0, 1) := by decide +kernel
theorem dX6_lost_1 : decode cX6_lost 1 = .ok (.getfield 18, 3) := by decide +kernel
theorem dX6_lost_4 : decode cX6_lost 4 = .ok (.iload_n 1, 1) := by decide +kernel
theorem dX6_lost_5 : decode cX6_lost 5 = .ok (.invokevirtual 152, 3) := by decide +kernel
theorem dX6_lost_8 : decode cX6_lost 8 = .ok (.ifCond .ne 10, 3) := by decide +kernel
theorem dX6_lost_11 : decode cX6_lost 11 = .ok (.aload_n 0, 1) := by decide +kernel
theorem dX6_lost_12 : decode cX6_lost 12 = .ok (.bipush (-11), 2) := by decide +kernel
theorem dX6_lost_14 : decode cX6_lost 14 = .ok (.invokevirtual 66, 3) := by decide +kernel
theorem dX6_lost_17 : decode cX6_lost 17 = .ok (.ireturn, 1) := by decide +kernel
theorem dX6_lost_18 : decode cX6_lost 18 = .ok (.aload_n 0, 1) := by decide +kernel
theorem dX6_lost_19 : decode cX6_lost 19 = .ok (.iconst 0, 1) := by decide +kernel
theorem dX6_lost_20 : decode cX6_lost 20 = .ok (.invokevirtual 207, 3) := by decide +kernel
theorem dX6_lost_23 : decode cX6_lost 23 = .ok (.pop, 1) := by decide +kernel
theorem dX6_lost_24 : decode cX6_lost 24 = .ok (.iconst 0, 1) := by decide +kernel
theorem dX6_lost_25 : decode cX6_lost 25 = .ok (.istore_n 2, 1) := by decide +kernel
theorem dX6_lost_26 : decode cX6_lost 26 = .ok (.iload_n 2, 1) := by decide +kernel
theorem dX6_lost_27 : decode cX6_lost 27 = .ok (.sipush 400, 3) := by decide +kernel
theorem dX6_lost_30 : decode cX6_lost 30 = .ok (.if_icmp .gt 30, 3) := by decide +kernel
theorem dX6_lost_33 : decode cX6_lost 33 = .ok (.aload_n 0, 1) := by decide +kernel
theorem dX6_lost_34 : decode cX6_lost 34 = .ok (.getfield 22, 3) := by decide +kernel
theorem dX6_lost_37 : decode cX6_lost 37 = .ok (.iload_n 1, 1) := by decide +kernel
theorem dX6_lost_38 : decode cX6_lost 38 = .ok (.invokevirtual 210, 3) := by decide +kernel
theorem dX6_lost_41 : decode cX6_lost 41 = .ok (.ifCond .ne 5, 3) := by decide +kernel
theorem dX6_lost_44 : decode cX6_lost 44 = .ok (.iload_n 2, 1) := by decide +kernel
theorem dX6_lost_45 : decode cX6_lost 45 = .ok (.ireturn, 1) := by decide +kernel
theorem dX6_lost_46 : decode cX6_lost 46 = .ok (.aload_n 0, 1) := by decide +kernel
theorem dX6_lost_47 : decode cX6_lost 47 = .ok (.getfield 22, 3) := by decide +kernel
theorem dX6_lost_50 : decode cX6_lost 50 = .ok (.invokevirtual 219, 3) := by decide +kernel
theorem dX6_lost_53 : decode cX6_lost 53 = .ok (.pop, 1) := by decide +kernel
theorem dX6_lost_54 : decode cX6_lost 54 = .ok (.iinc 2 1, 3) := by decide +kernel
theorem dX6_lost_57 : decode cX6_lost 57 = .ok (.goto (-31), 3) := by decide +kernel
theorem dX6_lost_60 : decode cX6_lost 60 = .ok (.iconst (-1), 1) := by decide +kernel
theorem dX6_lost_61 : decode cX6_lost 61 = .ok (.ireturn, 1) := by decide +kernel
theorem dX6_comes_0 : decode cX6_comes 0 = .ok (.aload_n 0, 1) := by decide +kernel
theorem dX6_comes_1 : decode cX6_comes 1 = .ok (.getfield 18, 3) := by decide +kernel
theorem dX6_comes_4 : decode cX6_comes 4 = .ok (.iload_n 1, 1) := by decide +kernel
theorem dX6_comes_5 : decode cX6_comes 5 = .ok (.invokevirtual 152, 3) := by decide +kernel
theorem dX6_comes_8 : decode cX6_comes 8 = .ok (.ifCond .eq 14, 3) := by decide +kernel
theorem dX6_comes_11 : decode cX6_comes 11 = .ok (.aload_n 0, 1) := by decide +kernel
theorem dX6_comes_12 : decode cX6_comes 12 = .ok (.getfield 18, 3) := by decide +kernel
theorem dX6_comes_15 : decode cX6_comes 15 = .ok (.iload_n 2, 1) := by decide +kernel
theorem dX6_comes_16 : decode cX6_comes 16 = .ok (.invokevirtual 104, 3) := by decide +kernel
theorem dX6_comes_19 : decode cX6_comes 19 = .ok (.ifCond .ne 10, 3) := by decide +kernel
theorem dX6_comes_22 : decode cX6_comes 22 = .ok (.aload_n 0, 1) := by decide +kernel
theorem dX6_comes_23 : decode cX6_comes 23 = .ok (.bipush (-11), 2) := by decide +kernel
theorem dX6_comes_25 : decode cX6_comes 25 = .ok (.invokevirtual 66, 3) := by decide +kernel
theorem dX6_comes_28 : decode cX6_comes 28 = .ok (.ireturn, 1) := by decide +kernel
theorem dX6_comes_29 : decode cX6_comes 29 = .ok (.aload_n 0, 1) := by decide +kernel
theorem dX6_comes_30 : decode cX6_comes 30 = .ok (.iconst 0, 1) := by decide +kernel
theorem dX6_comes_31 : decode cX6_comes 31 = .ok (.invokevirtual 207, 3) := by decide +kernel
theorem dX6_comes_34 : decode cX6_comes 34 = .ok (.pop, 1) := by decide +kernel
theorem dX6_comes_35 : decode cX6_comes 35 = .ok (.iconst 0, 1) := by decide +kernel
theorem dX6_comes_36 : decode cX6_comes 36 = .ok (.istore_n 3, 1) := by decide +kernel
theorem dX6_comes_37 : decode cX6_comes 37 = .ok (.iload_n 3, 1) := by decide +kernel
theorem dX6_comes_38 : decode cX6_comes 38 = .ok (.sipush 400, 3) := by decide +kernel
theorem dX6_comes_41 : decode cX6_comes 41 = .ok (.if_icmp .gt 34, 3) := by decide +kernel
theorem dX6_comes_44 : decode cX6_comes 44 = .ok (.aload_n 0, 1) := by decide +kernel
theorem dX6_comes_45 : decode cX6_comes 45 = .ok (.getfield 22, 3) := by decide +kernel
theorem dX6_comes_48 : decode cX6_comes 48 = .ok (.iload_n 2, 1) := by decide +kernel
theorem dX6_comes_49 : decode cX6_comes 49 = .ok (.invokevirtual 114, 3) := by decide +kernel
theorem dX6_comes_52 : decode cX6_comes 52 = .ok (.getfield 216, 3) := by decide +kernel
theorem dX6_comes_55 : decode cX6_comes 55 = .ok (.iload_n 1, 1) := by decide +kernel
theorem dX6_comes_56 : decode cX6_comes 56 = .ok (.if_icmp .ne 5, 3) := by decide +kernel
theorem dX6_comes_59 : decode cX6_comes 59 = .ok (.iload_n 3, 1) := by decide +kernel
theorem dX6_comes_60 : decode cX6_comes 60 = .ok (.ireturn, 1) := by decide +kernel
theorem dX6_comes_61 : decode cX6_comes 61 = .ok (.aload_n 0, 1) := by decide +kernel
theorem dX6_comes_62 : decode cX6_comes 62 = .ok (.getfield 22, 3) := by decide +kernel
theorem dX6_comes_65 : decode cX6_comes 65 = .ok (.invokevirtual 219, 3) := by decide +kernel
theorem dX6_comes_68 : decode cX6_comes 68 = .ok (.pop, 1) := by decide +kernel
theorem dX6_comes_69 : decode cX6_comes 69 = .ok (.iinc 3 1, 3) := by decide +kernel
theorem dX6_comes_72 : decode cX6_comes 72 = .ok (.goto (-35), 3) := by decide +kernel
theorem dX6_comes_75 : decode cX6_comes 75 = .ok (.iconst (-1), 1) := by decide +kernel
theorem dX6_comes_76 : decode cX6_comes 76 = .ok (.ireturn, 1) := by decide +kernel
theorem dX6_meet_0 : decode cX6_meet 0 = .ok (.aload_n 0, 1) := by decide +kernel
theorem dX6_meet_1 : decode cX6_meet 1 = .ok (.getfield 18, 3) := by decide +kernel
theorem dX6_meet_4 : decode cX6_meet 4 = .ok (.iload_n 1, 1) := by decide +kernel
theorem dX6_meet_5 : decode cX6_meet 5 = .ok (.invokevirtual 104, 3) := by decide +kernel
theorem dX6_meet_8 : decode cX6_meet 8 = .ok (.ifCond .eq 14, 3) := by decide +kernel
theorem dX6_meet_11 : decode cX6_meet 11 = .ok (.aload_n 0, 1) := by decide +kernel
theorem dX6_meet_12 : decode cX6_meet 12 = .ok (.getfield 18, 3) := by decide +kernel
theorem dX6_meet_15 : decode cX6_meet 15 = .ok (.iload_n 2, 1) := by decide +kernel
theorem dX6_meet_16 : decode cX6_meet 16 = .ok (.invokevirtual 104, 3) := by decide +kernel
theorem dX6_meet_19 : decode cX6_meet 19 = .ok (.ifCond .ne 10, 3) := by decide +kernel
theorem dX6_meet_22 : decode cX6_meet 22 = .ok (.aload_n 0, 1) := by decide +kernel
theorem dX6_meet_23 : decode cX6_meet 23 = .ok (.bipush (-11), 2) := by decide +kernel
theorem dX6_meet_25 : decode cX6_meet 25 = .ok (.invokevirtual 66, 3) := by decide +kernel
theorem dX6_meet_28 : decode cX6_meet 28 = .ok (.ireturn, 1) := by decide +kernel
theorem dX6_meet_29 : decode cX6_meet 29 = .ok (.iload_n 1, 1) := by decide +kernel
theorem dX6_meet_30 : decode cX6_meet 30 = .ok (.iload_n 2, 1) := by decide +kernel
theorem dX6_meet_31 : decode cX6_meet 31 = .ok (.if_icmp .ne 10, 3) := by decide +kernel
theorem dX6_meet_34 : decode cX6_meet 34 = .ok (.aload_n 0, 1) := by decide +kernel
theorem dX6_meet_35 : decode cX6_meet 35 = .ok (.bipush (-16), 2) := by decide +kernel
theorem dX6_meet_37 : decode cX6_meet 37 = .ok (.invokevirtual 66, 3) := by decide +kernel
theorem dX6_meet_40 : decode cX6_meet 40 = .ok (.ireturn, 1) := by decide +kernel
theorem dX6_meet_41 : decode cX6_meet 41 = .ok (.aload_n 0, 1) := by decide +kernel
theorem dX6_meet_42 : decode cX6_meet 42 = .ok (.iconst 0, 1) := by decide +kernel
theorem dX6_meet_43 : decode cX6_meet 43 = .ok (.invokevirtual 207, 3) := by decide +kernel
theorem dX6_meet_46 : decode cX6_meet 46 = .ok (.pop, 1) := by decide +kernel
theorem dX6_meet_47 : decode cX6_meet 47 = .ok (.iconst 1, 1) := by decide +kernel
theorem dX6_meet_48 : decode cX6_meet 48 = .ok (.istore_n 3, 1) := by decide +kernel
theorem dX6_meet_49 : decode cX6_meet 49 = .ok (.iload_n 3, 1) := by decide +kernel
theorem dX6_meet_50 : decode cX6_meet 50 = .ok (.sipush 400, 3) := by decide +kernel
theorem dX6_meet_53 : decode cX6_meet 53 = .ok (.if_icmp .gt 44, 3) := by decide +kernel
theorem dX6_meet_56 : decode cX6_meet 56 = .ok (.aload_n 0, 1) := by decide +kernel
theorem dX6_meet_57 : decode cX6_meet 57 = .ok (.getfield 22, 3) := by decide +kernel
theorem dX6_meet_60 : decode cX6_meet 60 = .ok (.invokevirtual 219, 3) := by decide +kernel
theorem dX6_meet_63 : decode cX6_meet 63 = .ok (.pop, 1) := by decide +kernel
theorem dX6_meet_64 : decode cX6_meet 64 = .ok (.aload_n 0, 1) := by decide +kernel
theorem dX6_meet_65 : decode cX6_meet 65 = .ok (.getfield 22, 3) := by decide +kernel
theorem dX6_meet_68 : decode cX6_meet 68 = .ok (.iload_n 1, 1) := by decide +kernel
theorem dX6_meet_69 : decode cX6_meet 69 = .ok (.invokevirtual 114, 3) := by decide +kernel
theorem dX6_meet_72 : decode cX6_meet 72 = .ok (.getfield 223, 3) := by decide +kernel
theorem dX6_meet_75 : decode cX6_meet 75 = .ok (.aload_n 0, 1) := by decide +kernel
theorem dX6_meet_76 : decode cX6_meet 76 = .ok (.getfield 22, 3) := by decide +kernel
theorem dX6_meet_79 : decode cX6_meet 79 = .ok (.iload_n 2, 1) := by decide +kernel
theorem dX6_meet_80 : decode cX6_meet 80 = .ok (.invokevirtual 114, 3) := by decide +kernel
theorem dX6_meet_83 : decode cX6_meet 83 = .ok (.getfield 223, 3) := by decide +kernel
theorem dX6_meet_86 : decode cX6_meet 86 = .ok (.if_icmp .ne 5, 3) := by decide +kernel
theorem dX6_meet_89 : decode cX6_meet 89 = .ok (.iload_n 3, 1) := by decide +kernel
theorem dX6_meet_90 : decode cX6_meet 90 = .ok (.ireturn, 1) := by decide +kernel
theorem dX6_meet_91 : decode cX6_meet 91 = .ok (.iinc 3 1, 3) := by decide +kernel
theorem dX6_meet_94 : decode cX6_meet 94 = .ok (.goto (-45), 3) := by decide +kernel
theorem dX6_meet_97 : decode cX6_meet 97 = .ok (.iconst (-1), 1) := by decide +kernel
theorem dX6_meet_98 : decode cX6_meet 98 = .ok (.ireturn, 1) := by decide +kernel
theorem dX6_meetings_0 : decode cX6_meetings 0 = .ok (.iload_n 1, 1) := by decide +kernel
theorem dX6_meetings_1 : decode cX6_meetings 1 = .ok (.sipush 400, 3) := by decide +kernel
theorem dX6_meetings_4 : decode cX6_meetings 4 = .ok (.invokestatic 110, 3) := by decide +kernel
theorem dX6_meetings_7 : decode cX6_meetings 7 = .ok (.ifCond .ne 10, 3) := by decide +kernel
theorem dX6_meetings_10 : decode cX6_meetings 10 = .ok (.aload_n 0, 1) := by decide +kernel
theorem dX6_meetings_11 : decode cX6_meetings 11 = .ok (.bipush (-6), 2) := by decide +kernel
theorem dX6_meetings_13 : decode cX6_meetings 13 = .ok (.invokevirtual 66, 3) := by decide +kernel
theorem dX6_meetings_16 : decode cX6_meetings 16 = .ok (.ireturn, 1) := by decide +kernel
theorem dX6_meetings_17 : decode cX6_meetings 17 = .ok (.aload_n 0, 1) := by decide +kernel
theorem dX6_meetings_18 : decode cX6_meetings 18 = .ok (.iload_n 1, 1) := by decide +kernel
theorem dX6_meetings_19 : decode cX6_meetings 19 = .ok (.invokevirtual 207, 3) := by decide +kernel
theorem dX6_meetings_22 : decode cX6_meetings 22 = .ok (.ireturn, 1) := by decide +kernel
theorem dX6_ring_0 : decode cX6_ring 0 = .ok (.iload_n 1, 1) := by decide +kernel
theorem dX6_ring_1 : decode cX6_ring 1 = .ok (.iconst 1, 1) := by decide +kernel
theorem dX6_ring_2 : decode cX6_ring 2 = .ok (.invokestatic 110, 3) := by decide +kernel
theorem dX6_ring_5 : decode cX6_ring 5 = .ok (.ifCond .ne 10, 3) := by decide +kernel
theorem dX6_ring_8 : decode cX6_ring 8 = .ok (.aload_n 0, 1) := by decide +kernel
theorem dX6_ring_9 : decode cX6_ring 9 = .ok (.bipush (-5), 2) := by decide +kernel
theorem dX6_ring_11 : decode cX6_ring 11 = .ok (.invokevirtual 66, 3) := by decide +kernel
theorem dX6_ring_14 : decode cX6_ring 14 = .ok (.ireturn, 1) := by decide +kernel
theorem dX6_ring_15 : decode cX6_ring 15 = .ok (.aload_n 0, 1) := by decide +kernel
theorem dX6_ring_16 : decode cX6_ring 16 = .ok (.iconst 0, 1) := by decide +kernel
theorem dX6_ring_17 : decode cX6_ring 17 = .ok (.invokevirtual 207, 3) := by decide +kernel
theorem dX6_ring_20 : decode cX6_ring 20 = .ok (.pop, 1) := by decide +kernel
theorem dX6_ring_21 : decode cX6_ring 21 = .ok (.iconst 0, 1) := by decide +kernel
theorem dX6_ring_22 : decode cX6_ring 22 = .ok (.istore_n 2, 1) := by decide +kernel
theorem dX6_ring_23 : decode cX6_ring 23 = .ok (.iload_n 2, 1) := by decide +kernel
theorem dX6_ring_24 : decode cX6_ring 24 = .ok (.sipush 400, 3) := by decide +kernel
theorem dX6_ring_27 : decode cX6_ring 27 = .ok (.if_icmp .gt 86, 3) := by decide +kernel
theorem dX6_ring_30 : decode cX6_ring 30 = .ok (.iload_n 2, 1) := by decide +kernel
theorem dX6_ring_31 : decode cX6_ring 31 = .ok (.aload_n 0, 1) := by decide +kernel
theorem dX6_ring_32 : decode cX6_ring 32 = .ok (.getfield 46, 3) := by decide +kernel
theorem dX6_ring_35 : decode cX6_ring 35 = .ok (.arraylength, 1) := by decide +kernel
theorem dX6_ring_36 : decode cX6_ring 36 = .ok (.if_icmp .ge 77, 3) := by decide +kernel
theorem dX6_ring_39 : decode cX6_ring 39 = .ok (.iload_n 2, 1) := by decide +kernel
theorem dX6_ring_40 : decode cX6_ring 40 = .ok (.aload_n 0, 1) := by decide +kernel
theorem dX6_ring_41 : decode cX6_ring 41 = .ok (.getfield 50, 3) := by decide +kernel
theorem dX6_ring_44 : decode cX6_ring 44 = .ok (.arraylength, 1) := by decide +kernel
theorem dX6_ring_45 : decode cX6_ring 45 = .ok (.if_icmp .ge 68, 3) := by decide +kernel
theorem dX6_ring_48 : decode cX6_ring 48 = .ok (.aload_n 0, 1) := by decide +kernel
theorem dX6_ring_49 : decode cX6_ring 49 = .ok (.getfield 46, 3) := by decide +kernel
theorem dX6_ring_52 : decode cX6_ring 52 = .ok (.iload_n 2, 1) := by decide +kernel
theorem dX6_ring_53 : decode cX6_ring 53 = .ok (.aload_n 0, 1) := by decide +kernel
theorem dX6_ring_54 : decode cX6_ring 54 = .ok (.getfield 22, 3) := by decide +kernel
theorem dX6_ring_57 : decode cX6_ring 57 = .ok (.iconst 0, 1) := by decide +kernel
theorem dX6_ring_58 : decode cX6_ring 58 = .ok (.invokevirtual 224, 3) := by decide +kernel
theorem dX6_ring_61 : decode cX6_ring 61 = .ok (.lastore, 1) := by decide +kernel
theorem dX6_ring_62 : decode cX6_ring 62 = .ok (.aload_n 0, 1) := by decide +kernel
theorem dX6_ring_63 : decode cX6_ring 63 = .ok (.getfield 50, 3) := by decide +kernel
theorem dX6_ring_66 : decode cX6_ring 66 = .ok (.iload_n 2, 1) := by decide +kernel
theorem dX6_ring_67 : decode cX6_ring 67 = .ok (.aload_n 0, 1) := by decide +kernel
theorem dX6_ring_68 : decode cX6_ring 68 = .ok (.getfield 22, 3) := by decide +kernel
theorem dX6_ring_71 : decode cX6_ring 71 = .ok (.iconst 3, 1) := by decide +kernel
theorem dX6_ring_72 : decode cX6_ring 72 = .ok (.invokevirtual 224, 3) := by decide +kernel
theorem dX6_ring_75 : decode cX6_ring 75 = .ok (.lastore, 1) := by decide +kernel
theorem dX6_ring_76 : decode cX6_ring 76 = .ok (.aload_n 0, 1) := by decide +kernel
theorem dX6_ring_77 : decode cX6_ring 77 = .ok (.iload_n 2, 1) := by decide +kernel
theorem dX6_ring_78 : decode cX6_ring 78 = .ok (.invokevirtual 227, 3) := by decide +kernel
theorem dX6_ring_81 : decode cX6_ring 81 = .ok (.istore_n 3, 1) := by decide +kernel
theorem dX6_ring_82 : decode cX6_ring 82 = .ok (.iload_n 3, 1) := by decide +kernel
theorem dX6_ring_83 : decode cX6_ring 83 = .ok (.iconst (-1), 1) := by decide +kernel
theorem dX6_ring_84 : decode cX6_ring 84 = .ok (.if_icmp .eq 15, 3) := by decide +kernel
theorem dX6_ring_87 : decode cX6_ring 87 = .ok (.iload_n 1, 1) := by decide +kernel
theorem dX6_ring_88 : decode cX6_ring 88 = .ok (.ifCond .ne 7, 3) := by decide +kernel
theorem dX6_ring_91 : decode cX6_ring 91 = .ok (.iload_n 3, 1) := by decide +kernel
theorem dX6_ring_92 : decode cX6_ring 92 = .ok (.goto 6, 3) := by decide +kernel
theorem dX6_ring_95 : decode cX6_ring 95 = .ok (.iload_n 2, 1) := by decide +kernel
theorem dX6_ring_96 : decode cX6_ring 96 = .ok (.iload_n 3, 1) := by decide +kernel
theorem dX6_ring_97 : decode cX6_ring 97 = .ok (.isub, 1) := by decide +kernel
theorem dX6_ring_98 : decode cX6_ring 98 = .ok (.ireturn, 1) := by decide +kernel
theorem dX6_ring_99 : decode cX6_ring 99 = .ok (.aload_n 0, 1) := by decide +kernel
theorem dX6_ring_100 : decode cX6_ring 100 = .ok (.getfield 22, 3) := by decide +kernel
theorem dX6_ring_103 : decode cX6_ring 103 = .ok (.invokevirtual 219, 3) := by decide +kernel
theorem dX6_ring_106 : decode cX6_ring 106 = .ok (.pop, 1) := by decide +kernel
theorem dX6_ring_107 : decode cX6_ring 107 = .ok (.iinc 2 1, 3) := by decide +kernel
theorem dX6_ring_110 : decode cX6_ring 110 = .ok (.goto (-87), 3) := by decide +kernel
theorem dX6_ring_113 : decode cX6_ring 113 = .ok (.aload_n 0, 1) := by decide +kernel
theorem dX6_ring_114 : decode cX6_ring 114 = .ok (.bipush (-6), 2) := by decide +kernel
theorem dX6_ring_116 : decode cX6_ring 116 = .ok (.invokevirtual 66, 3) := by decide +kernel
theorem dX6_ring_119 : decode cX6_ring 119 = .ok (.ireturn, 1) := by decide +kernel
theorem dX6_alone_0 : decode cX6_alone 0 = .ok (.aload_n 0, 1) := by decide +kernel
theorem dX6_alone_1 : decode cX6_alone 1 = .ok (.iload_n 1, 1) := by decide +kernel
theorem dX6_alone_2 : decode cX6_alone 2 = .ok (.iload_n 2, 1) := by decide +kernel
theorem dX6_alone_3 : decode cX6_alone 3 = .ok (.iload_n 3, 1) := by decide +kernel
theorem dX6_alone_4 : decode cX6_alone 4 = .ok (.invokevirtual 204, 3) := by decide +kernel
theorem dX6_alone_7 : decode cX6_alone 7 = .ok (.istore 4, 2) := by decide +kernel
theorem dX6_alone_9 : decode cX6_alone 9 = .ok (.iload 4, 2) := by decide +kernel
theorem dX6_alone_11 : decode cX6_alone 11 = .ok (.ifCond .eq 10, 3) := by decide +kernel
theorem dX6_alone_14 : decode cX6_alone 14 = .ok (.aload_n 0, 1) := by decide +kernel
theorem dX6_alone_15 : decode cX6_alone 15 = .ok (.iload 4, 2) := by decide +kernel
theorem dX6_alone_17 : decode cX6_alone 17 = .ok (.invokevirtual 66, 3) := by decide +kernel
theorem dX6_alone_20 : decode cX6_alone 20 = .ok (.ireturn, 1) := by decide +kernel
theorem dX6_alone_21 : decode cX6_alone 21 = .ok (.aload_n 0, 1) := by decide +kernel
theorem dX6_alone_22 : decode cX6_alone 22 = .ok (.iconst 0, 1) := by decide +kernel
theorem dX6_alone_23 : decode cX6_alone 23 = .ok (.invokevirtual 207, 3) := by decide +kernel
theorem dX6_alone_26 : decode cX6_alone 26 = .ok (.pop, 1) := by decide +kernel
theorem dX6_alone_27 : decode cX6_alone 27 = .ok (.aload_n 0, 1) := by decide +kernel
theorem dX6_alone_28 : decode cX6_alone 28 = .ok (.getfield 22, 3) := by decide +kernel
theorem dX6_alone_31 : decode cX6_alone 31 = .ok (.iload_n 2, 1) := by decide +kernel
theorem dX6_alone_32 : decode cX6_alone 32 = .ok (.invokevirtual 230, 3) := by decide +kernel
theorem dX6_alone_35 : decode cX6_alone 35 = .ok (.aload_n 0, 1) := by decide +kernel
theorem dX6_alone_36 : decode cX6_alone 36 = .ok (.getfield 22, 3) := by decide +kernel
theorem dX6_alone_39 : decode cX6_alone 39 = .ok (.iload_n 1, 1) := by decide +kernel
theorem dX6_alone_40 : decode cX6_alone 40 = .ok (.invokevirtual 233, 3) := by decide +kernel
theorem dX6_alone_43 : decode cX6_alone 43 = .ok (.pop, 1) := by decide +kernel
theorem dX6_alone_44 : decode cX6_alone 44 = .ok (.aload_n 0, 1) := by decide +kernel
theorem dX6_alone_45 : decode cX6_alone 45 = .ok (.getfield 22, 3) := by decide +kernel
theorem dX6_alone_48 : decode cX6_alone 48 = .ok (.iconst 0, 1) := by decide +kernel
theorem dX6_alone_49 : decode cX6_alone 49 = .ok (.invokevirtual 114, 3) := by decide +kernel
theorem dX6_alone_52 : decode cX6_alone 52 = .ok (.iload_n 3, 1) := by decide +kernel
theorem dX6_alone_53 : decode cX6_alone 53 = .ok (.iconst 1, 1) := by decide +kernel
theorem dX6_alone_54 : decode cX6_alone 54 = .ok (.iadd, 1) := by decide +kernel
theorem dX6_alone_55 : decode cX6_alone 55 = .ok (.invokevirtual 174, 3) := by decide +kernel
theorem dX6_alone_58 : decode cX6_alone 58 = .ok (.ireturn, 1) := by decide +kernel
theorem dX6_alike_0 : decode cX6_alike 0 = .ok (.aload_n 0, 1) := by decide +kernel
theorem dX6_alike_1 : decode cX6_alike 1 = .ok (.iconst 0, 1) := by decide +kernel
theorem dX6_alike_2 : decode cX6_alike 2 = .ok (.invokevirtual 207, 3) := by decide +kernel
theorem dX6_alike_5 : decode cX6_alike 5 = .ok (.pop, 1) := by decide +kernel
theorem dX6_alike_6 : decode cX6_alike 6 = .ok (.iconst 0, 1) := by decide +kernel
theorem dX6_alike_7 : decode cX6_alike 7 = .ok (.istore_n 1, 1) := by decide +kernel
theorem dX6_alike_8 : decode cX6_alike 8 = .ok (.iload_n 1, 1) := by decide +kernel
theorem dX6_alike_9 : decode cX6_alike 9 = .ok (.sipush 400, 3) := by decide +kernel
theorem dX6_alike_12 : decode cX6_alike 12 = .ok (.if_icmp .gt 40, 3) := by decide +kernel
theorem dX6_alike_15 : decode cX6_alike 15 = .ok (.aload_n 0, 1) := by decide +kernel
theorem dX6_alike_16 : decode cX6_alike 16 = .ok (.getfield 22, 3) := by decide +kernel
theorem dX6_alike_19 : decode cX6_alike 19 = .ok (.aload_n 0, 1) := by decide +kernel
theorem dX6_alike_20 : decode cX6_alike 20 = .ok (.getfield 22, 3) := by decide +kernel
theorem dX6_alike_23 : decode cX6_alike 23 = .ok (.iconst 0, 1) := by decide +kernel
theorem dX6_alike_24 : decode cX6_alike 24 = .ok (.invokevirtual 114, 3) := by decide +kernel
theorem dX6_alike_27 : decode cX6_alike 27 = .ok (.getfield 216, 3) := by decide +kernel
theorem dX6_alike_30 : decode cX6_alike 30 = .ok (.invokevirtual 236, 3) := by decide +kernel
theorem dX6_alike_33 : decode cX6_alike 33 = .ok (.ifCond .eq 5, 3) := by decide +kernel
theorem dX6_alike_36 : decode cX6_alike 36 = .ok (.iload_n 1, 1) := by decide +kernel
theorem dX6_alike_37 : decode cX6_alike 37 = .ok (.ireturn, 1) := by decide +kernel
theorem dX6_alike_38 : decode cX6_alike 38 = .ok (.aload_n 0, 1) := by decide +kernel
theorem dX6_alike_39 : decode cX6_alike 39 = .ok (.getfield 22, 3) := by decide +kernel
theorem dX6_alike_42 : decode cX6_alike 42 = .ok (.invokevirtual 219, 3) := by decide +kernel
theorem dX6_alike_45 : decode cX6_alike 45 = .ok (.pop, 1) := by decide +kernel
theorem dX6_alike_46 : decode cX6_alike 46 = .ok (.iinc 1 1, 3) := by decide +kernel
theorem dX6_alike_49 : decode cX6_alike 49 = .ok (.goto (-41), 3) := by decide +kernel
theorem dX6_alike_52 : decode cX6_alike 52 = .ok (.iconst (-1), 1) := by decide +kernel
theorem dX6_alike_53 : decode cX6_alike 53 = .ok (.ireturn, 1) := by decide +kernel
theorem dX6_hire_0 : decode cX6_hire 0 = .ok (.aload_n 0, 1) := by decide +kernel
theorem dX6_hire_1 : decode cX6_hire 1 = .ok (.getfield 18, 3) := by decide +kernel
theorem dX6_hire_4 : decode cX6_hire 4 = .ok (.iload_n 1, 1) := by decide +kernel
theorem dX6_hire_5 : decode cX6_hire 5 = .ok (.invokevirtual 152, 3) := by decide +kernel
theorem dX6_hire_8 : decode cX6_hire 8 = .ok (.ifCond .ne 10, 3) := by decide +kernel
theorem dX6_hire_11 : decode cX6_hire 11 = .ok (.aload_n 0, 1) := by decide +kernel
theorem dX6_hire_12 : decode cX6_hire 12 = .ok (.bipush (-11), 2) := by decide +kernel
theorem dX6_hire_14 : decode cX6_hire 14 = .ok (.invokevirtual 66, 3) := by decide +kernel
theorem dX6_hire_17 : decode cX6_hire 17 = .ok (.ireturn, 1) := by decide +kernel
theorem dX6_hire_18 : decode cX6_hire 18 = .ok (.iload_n 2, 1) := by decide +kernel
theorem dX6_hire_19 : decode cX6_hire 19 = .ok (.iconst 1, 1) := by decide +kernel
theorem dX6_hire_20 : decode cX6_hire 20 = .ok (.invokestatic 110, 3) := by decide +kernel
theorem dX6_hire_23 : decode cX6_hire 23 = .ok (.ifCond .ne 10, 3) := by decide +kernel
theorem dX6_hire_26 : decode cX6_hire 26 = .ok (.aload_n 0, 1) := by decide +kernel
theorem dX6_hire_27 : decode cX6_hire 27 = .ok (.bipush (-15), 2) := by decide +kernel
theorem dX6_hire_29 : decode cX6_hire 29 = .ok (.invokevirtual 66, 3) := by decide +kernel
theorem dX6_hire_32 : decode cX6_hire 32 = .ok (.ireturn, 1) := by decide +kernel
theorem dX6_hire_33 : decode cX6_hire 33 = .ok (.aload_n 0, 1) := by decide +kernel
theorem dX6_hire_34 : decode cX6_hire 34 = .ok (.getfield 18, 3) := by decide +kernel
theorem dX6_hire_37 : decode cX6_hire 37 = .ok (.invokevirtual 167, 3) := by decide +kernel
theorem dX6_hire_40 : decode cX6_hire 40 = .ok (.ifCond .ne 10, 3) := by decide +kernel
theorem dX6_hire_43 : decode cX6_hire 43 = .ok (.aload_n 0, 1) := by decide +kernel
theorem dX6_hire_44 : decode cX6_hire 44 = .ok (.bipush (-17), 2) := by decide +kernel
theorem dX6_hire_46 : decode cX6_hire 46 = .ok (.invokevirtual 66, 3) := by decide +kernel
theorem dX6_hire_49 : decode cX6_hire 49 = .ok (.ireturn, 1) := by decide +kernel
theorem dX6_hire_50 : decode cX6_hire 50 = .ok (.aload_n 0, 1) := by decide +kernel
theorem dX6_hire_51 : decode cX6_hire 51 = .ok (.getfield 18, 3) := by decide +kernel
theorem dX6_hire_54 : decode cX6_hire 54 = .ok (.iload_n 1, 1) := by decide +kernel
theorem dX6_hire_55 : decode cX6_hire 55 = .ok (.invokevirtual 239, 3) := by decide +kernel
theorem dX6_hire_58 : decode cX6_hire 58 = .ok (.ifCond .eq 5, 3) := by decide +kernel
theorem dX6_hire_61 : decode cX6_hire 61 = .ok (.iconst (-1), 1) := by decide +kernel
theorem dX6_hire_62 : decode cX6_hire 62 = .ok (.ireturn, 1) := by decide +kernel
theorem dX6_hire_63 : decode cX6_hire 63 = .ok (.aload_n 0, 1) := by decide +kernel
theorem dX6_hire_64 : decode cX6_hire 64 = .ok (.iconst 0, 1) := by decide +kernel
theorem dX6_hire_65 : decode cX6_hire 65 = .ok (.invokevirtual 207, 3) := by decide +kernel
theorem dX6_hire_68 : decode cX6_hire 68 = .ok (.pop, 1) := by decide +kernel
theorem dX6_hire_69 : decode cX6_hire 69 = .ok (.iconst (-1), 1) := by decide +kernel
theorem dX6_hire_70 : decode cX6_hire 70 = .ok (.istore_n 3, 1) := by decide +kernel
theorem dX6_hire_71 : decode cX6_hire 71 = .ok (.bipush 101, 2) := by decide +kernel
theorem dX6_hire_73 : decode cX6_hire 73 = .ok (.istore 4, 2) := by decide +kernel
theorem dX6_hire_75 : decode cX6_hire 75 = .ok (.iconst 0, 1) := by decide +kernel
theorem dX6_hire_76 : decode cX6_hire 76 = .ok (.istore 5, 2) := by decide +kernel
theorem dX6_hire_78 : decode cX6_hire 78 = .ok (.iload 5, 2) := by decide +kernel
theorem dX6_hire_80 : decode cX6_hire 80 = .ok (.sipush 196, 3) := by decide +kernel
theorem dX6_hire_83 : decode cX6_hire 83 = .ok (.if_icmp .ge 53, 3) := by decide +kernel
theorem dX6_hire_86 : decode cX6_hire 86 = .ok (.iload 4, 2) := by decide +kernel
theorem dX6_hire_88 : decode cX6_hire 88 = .ok (.ifCond .le 48, 3) := by decide +kernel
theorem dX6_hire_91 : decode cX6_hire 91 = .ok (.aload_n 0, 1) := by decide +kernel
theorem dX6_hire_92 : decode cX6_hire 92 = .ok (.getfield 18, 3) := by decide +kernel
theorem dX6_hire_95 : decode cX6_hire 95 = .ok (.iload 5, 2) := by decide +kernel
theorem dX6_hire_97 : decode cX6_hire 97 = .ok (.iconst 4, 1) := by decide +kernel
theorem dX6_hire_98 : decode cX6_hire 98 = .ok (.idiv, 1) := by decide +kernel
theorem dX6_hire_99 : decode cX6_hire 99 = .ok (.invokevirtual 242, 3) := by decide +kernel
theorem dX6_hire_102 : decode cX6_hire 102 = .ok (.ifCond .eq 28, 3) := by decide +kernel
theorem dX6_hire_105 : decode cX6_hire 105 = .ok (.aload_n 0, 1) := by decide +kernel
theorem dX6_hire_106 : decode cX6_hire 106 = .ok (.iload_n 1, 1) := by decide +kernel
theorem dX6_hire_107 : decode cX6_hire 107 = .ok (.iload 5, 2) := by decide +kernel
theorem dX6_hire_109 : decode cX6_hire 109 = .ok (.iload 4, 2) := by decide +kernel
theorem dX6_hire_111 : decode cX6_hire 111 = .ok (.invokevirtual 245, 3) := by decide +kernel
theorem dX6_hire_114 : decode cX6_hire 114 = .ok (.istore 6, 2) := by decide +kernel
theorem dX6_hire_116 : decode cX6_hire 116 = .ok (.iload 6, 2) := by decide +kernel
theorem dX6_hire_118 : decode cX6_hire 118 = .ok (.iload 4, 2) := by decide +kernel
theorem dX6_hire_120 : decode cX6_hire 120 = .ok (.if_icmp .ge 10, 3) := by decide +kernel
theorem dX6_hire_123 : decode cX6_hire 123 = .ok (.iload 6, 2) := by decide +kernel
theorem dX6_hire_125 : decode cX6_hire 125 = .ok (.istore 4, 2) := by decide +kernel
theorem dX6_hire_127 : decode cX6_hire 127 = .ok (.iload 5, 2) := by decide +kernel
theorem dX6_hire_129 : decode cX6_hire 129 = .ok (.istore_n 3, 1) := by decide +kernel
theorem dX6_hire_130 : decode cX6_hire 130 = .ok (.iinc 5 1, 3) := by decide +kernel
theorem dX6_hire_133 : decode cX6_hire 133 = .ok (.goto (-55), 3) := by decide +kernel
theorem dX6_hire_136 : decode cX6_hire 136 = .ok (.iload_n 3, 1) := by decide +kernel
theorem dX6_hire_137 : decode cX6_hire 137 = .ok (.iconst (-1), 1) := by decide +kernel
theorem dX6_hire_138 : decode cX6_hire 138 = .ok (.if_icmp .eq 7, 3) := by decide +kernel
theorem dX6_hire_141 : decode cX6_hire 141 = .ok (.iload_n 2, 1) := by decide +kernel
theorem dX6_hire_142 : decode cX6_hire 142 = .ok (.ifCond .ne 7, 3) := by decide +kernel
theorem dX6_hire_145 : decode cX6_hire 145 = .ok (.iload_n 3, 1) := by decide +kernel
theorem dX6_hire_146 : decode cX6_hire 146 = .ok (.goto 5, 3) := by decide +kernel
theorem dX6_hire_149 : decode cX6_hire 149 = .ok (.iload 4, 2) := by decide +kernel
theorem dX6_hire_151 : decode cX6_hire 151 = .ok (.ireturn, 1) := by decide +kernel
theorem dX6_fit_0 : decode cX6_fit 0 = .ok (.aload_n 0, 1) := by decide +kernel
theorem dX6_fit_1 : decode cX6_fit 1 = .ok (.iload_n 1, 1) := by decide +kernel
theorem dX6_fit_2 : decode cX6_fit 2 = .ok (.invokevirtual 62, 3) := by decide +kernel
theorem dX6_fit_5 : decode cX6_fit 5 = .ok (.astore_n 3, 1) := by decide +kernel
theorem dX6_fit_6 : decode cX6_fit 6 = .ok (.aload_n 3, 1) := by decide +kernel
theorem dX6_fit_7 : decode cX6_fit 7 = .ok (.invokestatic 74, 3) := by decide +kernel
theorem dX6_fit_10 : decode cX6_fit 10 = .ok (.istore 4, 2) := by decide +kernel
theorem dX6_fit_12 : decode cX6_fit 12 = .ok (.aload_n 3, 1) := by decide +kernel
theorem dX6_fit_13 : decode cX6_fit 13 = .ok (.ifnull 8, 3) := by decide +kernel
theorem dX6_fit_16 : decode cX6_fit 16 = .ok (.iload 4, 2) := by decide +kernel
theorem dX6_fit_18 : decode cX6_fit 18 = .ok (.ifCond .eq 10, 3) := by decide +kernel
theorem dX6_fit_21 : decode cX6_fit 21 = .ok (.aload_n 0, 1) := by decide +kernel
theorem dX6_fit_22 : decode cX6_fit 22 = .ok (.iload 4, 2) := by decide +kernel
theorem dX6_fit_24 : decode cX6_fit 24 = .ok (.invokevirtual 66, 3) := by decide +kernel
theorem dX6_fit_27 : decode cX6_fit 27 = .ok (.ireturn, 1) := by decide +kernel
theorem dX6_fit_28 : decode cX6_fit 28 = .ok (.aload_n 0, 1) := by decide +kernel
theorem dX6_fit_29 : decode cX6_fit 29 = .ok (.aload_n 3, 1) := by decide +kernel
theorem dX6_fit_30 : decode cX6_fit 30 = .ok (.iload_n 2, 1) := by decide +kernel
theorem dX6_fit_31 : decode cX6_fit 31 = .ok (.invokevirtual 248, 3) := by decide +kernel
theorem dX6_fit_34 : decode cX6_fit 34 = .ok (.istore 5, 2) := by decide +kernel
theorem dX6_fit_36 : decode cX6_fit 36 = .ok (.iload 5, 2) := by decide +kernel
theorem dX6_fit_38 : decode cX6_fit 38 = .ok (.ifCond .eq 10, 3) := by decide +kernel
theorem dX6_fit_41 : decode cX6_fit 41 = .ok (.aload_n 0, 1) := by decide +kernel
theorem dX6_fit_42 : decode cX6_fit 42 = .ok (.iload 5, 2) := by decide +kernel
theorem dX6_fit_44 : decode cX6_fit 44 = .ok (.invokevirtual 66, 3) := by decide +kernel
theorem dX6_fit_47 : decode cX6_fit 47 = .ok (.ireturn, 1) := by decide +kernel
theorem dX6_fit_48 : decode cX6_fit 48 = .ok (.aload_n 0, 1) := by decide +kernel
theorem dX6_fit_49 : decode cX6_fit 49 = .ok (.iconst 0, 1) := by decide +kernel
theorem dX6_fit_50 : decode cX6_fit 50 = .ok (.invokevirtual 207, 3) := by decide +kernel
theorem dX6_fit_53 : decode cX6_fit 53 = .ok (.pop, 1) := by decide +kernel
theorem dX6_fit_54 : decode cX6_fit 54 = .ok (.aload_n 0, 1) := by decide +kernel
theorem dX6_fit_55 : decode cX6_fit 55 = .ok (.aload_n 3, 1) := by decide +kernel
theorem dX6_fit_56 : decode cX6_fit 56 = .ok (.iload_n 2, 1) := by decide +kernel
theorem dX6_fit_57 : decode cX6_fit 57 = .ok (.invokevirtual 252, 3) := by decide +kernel
theorem dX6_fit_60 : decode cX6_fit 60 = .ok (.ireturn, 1) := by decide +kernel
theorem dX6_began_0 : decode cX6_began 0 = .ok (.aload_n 0, 1) := by decide +kernel
theorem dX6_began_1 : decode cX6_began 1 = .ok (.iload_n 1, 1) := by decide +kernel
theorem dX6_began_2 : decode cX6_began 2 = .ok (.invokevirtual 62, 3) := by decide +kernel
theorem dX6_began_5 : decode cX6_began 5 = .ok (.astore 4, 2) := by decide +kernel
theorem dX6_began_7 : decode cX6_began 7 = .ok (.aload 4, 2) := by decide +kernel
theorem dX6_began_9 : decode cX6_began 9 = .ok (.ifnull 14, 3) := by decide +kernel
theorem dX6_began_12 : decode cX6_began 12 = .ok (.aload_n 0, 1) := by decide +kernel
theorem dX6_began_13 : decode cX6_began 13 = .ok (.getfield 18, 3) := by decide +kernel
theorem dX6_began_16 : decode cX6_began 16 = .ok (.iload_n 3, 1) := by decide +kernel
theorem dX6_began_17 : decode cX6_began 17 = .ok (.invokevirtual 104, 3) := by decide +kernel
theorem dX6_began_20 : decode cX6_began 20 = .ok (.ifCond .ne 9, 3) := by decide +kernel
theorem dX6_began_23 : decode cX6_began 23 = .ok (.aload_n 0, 1) := by decide +kernel
theorem dX6_began_24 : decode cX6_began 24 = .ok (.iconst (-1), 1) := by decide +kernel
theorem dX6_began_25 : decode cX6_began 25 = .ok (.invokevirtual 66, 3) := by decide +kernel
theorem dX6_began_28 : decode cX6_began 28 = .ok (.ireturn, 1) := by decide +kernel
theorem dX6_began_29 : decode cX6_began 29 = .ok (.aload 4, 2) := by decide +kernel
theorem dX6_began_31 : decode cX6_began 31 = .ok (.invokestatic 74, 3) := by decide +kernel
theorem dX6_began_34 : decode cX6_began 34 = .ok (.istore 5, 2) := by decide +kernel
theorem dX6_began_36 : decode cX6_began 36 = .ok (.iload 5, 2) := by decide +kernel
theorem dX6_began_38 : decode cX6_began 38 = .ok (.ifCond .eq 10, 3) := by decide +kernel
theorem dX6_began_41 : decode cX6_began 41 = .ok (.aload_n 0, 1) := by decide +kernel
theorem dX6_began_42 : decode cX6_began 42 = .ok (.iload 5, 2) := by decide +kernel
theorem dX6_began_44 : decode cX6_began 44 = .ok (.invokevirtual 66, 3) := by decide +kernel
theorem dX6_began_47 : decode cX6_began 47 = .ok (.ireturn, 1) := by decide +kernel
theorem dX6_began_48 : decode cX6_began 48 = .ok (.aload_n 0, 1) := by decide +kernel
theorem dX6_began_49 : decode cX6_began 49 = .ok (.aload 4, 2) := by decide +kernel
theorem dX6_began_51 : decode cX6_began 51 = .ok (.iload_n 2, 1) := by decide +kernel
theorem dX6_began_52 : decode cX6_began 52 = .ok (.invokevirtual 248, 3) := by decide +kernel
theorem dX6_began_55 : decode cX6_began 55 = .ok (.istore 6, 2) := by decide +kernel
theorem dX6_began_57 : decode cX6_began 57 = .ok (.iload 6, 2) := by decide +kernel
theorem dX6_began_59 : decode cX6_began 59 = .ok (.ifCond .eq 10, 3) := by decide +kernel
theorem dX6_began_62 : decode cX6_began 62 = .ok (.aload_n 0, 1) := by decide +kernel
theorem dX6_began_63 : decode cX6_began 63 = .ok (.iload 6, 2) := by decide +kernel
theorem dX6_began_65 : decode cX6_began 65 = .ok (.invokevirtual 66, 3) := by decide +kernel
theorem dX6_began_68 : decode cX6_began 68 = .ok (.ireturn, 1) := by decide +kernel
theorem dX6_began_69 : decode cX6_began 69 = .ok (.iconst 0, 1) := by decide +kernel
theorem dX6_began_70 : decode cX6_began 70 = .ok (.istore 7, 2) := by decide +kernel
theorem dX6_began_72 : decode cX6_began 72 = .ok (.iconst 0, 1) := by decide +kernel
theorem dX6_began_73 : decode cX6_began 73 = .ok (.istore 8, 2) := by decide +kernel
theorem dX6_began_75 : decode cX6_began 75 = .ok (.iload 8, 2) := by decide +kernel
theorem dX6_began_77 : decode cX6_began 77 = .ok (.aload_n 0, 1) := by decide +kernel
theorem dX6_began_78 : decode cX6_began 78 = .ok (.getfield 18, 3) := by decide +kernel
theorem dX6_began_81 : decode cX6_began 81 = .ok (.getfield 255, 3) := by decide +kernel
theorem dX6_began_84 : decode cX6_began 84 = .ok (.if_icmp .ge 45, 3) := by decide +kernel
theorem dX6_began_87 : decode cX6_began 87 = .ok (.aload_n 0, 1) := by decide +kernel
theorem dX6_began_88 : decode cX6_began 88 = .ok (.iconst 0, 1) := by decide +kernel
theorem dX6_began_89 : decode cX6_began 89 = .ok (.invokevirtual 207, 3) := by decide +kernel
theorem dX6_began_92 : decode cX6_began 92 = .ok (.pop, 1) := by decide +kernel
theorem dX6_began_93 : decode cX6_began 93 = .ok (.aload_n 0, 1) := by decide +kernel
theorem dX6_began_94 : decode cX6_began 94 = .ok (.getfield 22, 3) := by decide +kernel
theorem dX6_began_97 : decode cX6_began 97 = .ok (.iload_n 3, 1) := by decide +kernel
theorem dX6_began_98 : decode cX6_began 98 = .ok (.iload 8, 2) := by decide +kernel
theorem dX6_began_100 : decode cX6_began 100 = .ok (.invokevirtual 258, 3) := by decide +kernel
theorem dX6_began_103 : decode cX6_began 103 = .ok (.aload_n 0, 1) := by decide +kernel
theorem dX6_began_104 : decode cX6_began 104 = .ok (.aload 4, 2) := by decide +kernel
theorem dX6_began_106 : decode cX6_began 106 = .ok (.iload_n 2, 1) := by decide +kernel
theorem dX6_began_107 : decode cX6_began 107 = .ok (.invokevirtual 252, 3) := by decide +kernel
theorem dX6_began_110 : decode cX6_began 110 = .ok (.iload_n 2, 1) := by decide +kernel
theorem dX6_began_111 : decode cX6_began 111 = .ok (.if_icmp .ne 12, 3) := by decide +kernel
theorem dX6_began_114 : decode cX6_began 114 = .ok (.iload 7, 2) := by decide +kernel
theorem dX6_began_116 : decode cX6_began 116 = .ok (.iconst 1, 1) := by decide +kernel
theorem dX6_began_117 : decode cX6_began 117 = .ok (.iload 8, 2) := by decide +kernel
theorem dX6_began_119 : decode cX6_began 119 = .ok (.ishl, 1) := by decide +kernel
theorem dX6_began_120 : decode cX6_began 120 = .ok (.ior, 1) := by decide +kernel
theorem dX6_began_121 : decode cX6_began 121 = .ok (.istore 7, 2) := by decide +kernel
theorem dX6_began_123 : decode cX6_began 123 = .ok (.iinc 8 1, 3) := by decide +kernel
theorem dX6_began_126 : decode cX6_began 126 = .ok (.goto (-51), 3) := by decide +kernel
theorem dX6_began_129 : decode cX6_began 129 = .ok (.iload 7, 2) := by decide +kernel
theorem dX6_began_131 : decode cX6_began 131 = .ok (.ireturn, 1) := by decide +kernel
theorem dX6_thief_0 : decode cX6_thief 0 = .ok (.aload_n 0, 1) := by decide +kernel
theorem dX6_thief_1 : decode cX6_thief 1 = .ok (.getfield 18, 3) := by decide +kernel
theorem dX6_thief_4 : decode cX6_thief 4 = .ok (.iload_n 1, 1) := by decide +kernel
theorem dX6_thief_5 : decode cX6_thief 5 = .ok (.invokevirtual 152, 3) := by decide +kernel
theorem dX6_thief_8 : decode cX6_thief 8 = .ok (.ifCond .ne 9, 3) := by decide +kernel
theorem dX6_thief_11 : decode cX6_thief 11 = .ok (.aload_n 0, 1) := by decide +kernel
theorem dX6_thief_12 : decode cX6_thief 12 = .ok (.iconst (-1), 1) := by decide +kernel
theorem dX6_thief_13 : decode cX6_thief 13 = .ok (.invokevirtual 66, 3) := by decide +kernel
theorem dX6_thief_16 : decode cX6_thief 16 = .ok (.ireturn, 1) := by decide +kernel
theorem dX6_thief_17 : decode cX6_thief 17 = .ok (.aload_n 0, 1) := by decide +kernel
theorem dX6_thief_18 : decode cX6_thief 18 = .ok (.getfield 18, 3) := by decide +kernel
theorem dX6_thief_21 : decode cX6_thief 21 = .ok (.iload_n 1, 1) := by decide +kernel
theorem dX6_thief_22 : decode cX6_thief 22 = .ok (.invokevirtual 261, 3) := by decide +kernel
theorem dX6_thief_25 : decode cX6_thief 25 = .ok (.istore_n 3, 1) := by decide +kernel
theorem dX6_thief_26 : decode cX6_thief 26 = .ok (.iload_n 3, 1) := by decide +kernel
theorem dX6_thief_27 : decode cX6_thief 27 = .ok (.iconst (-1), 1) := by decide +kernel
theorem dX6_thief_28 : decode cX6_thief 28 = .ok (.if_icmp .ne 10, 3) := by decide +kernel
theorem dX6_thief_31 : decode cX6_thief 31 = .ok (.aload_n 0, 1) := by decide +kernel
theorem dX6_thief_32 : decode cX6_thief 32 = .ok (.bipush (-5), 2) := by decide +kernel
theorem dX6_thief_34 : decode cX6_thief 34 = .ok (.invokevirtual 66, 3) := by decide +kernel
theorem dX6_thief_37 : decode cX6_thief 37 = .ok (.ireturn, 1) := by decide +kernel
theorem dX6_thief_38 : decode cX6_thief 38 = .ok (.iload_n 2, 1) := by decide +kernel
theorem dX6_thief_39 : decode cX6_thief 39 = .ok (.sipush 400, 3) := by decide +kernel
theorem dX6_thief_42 : decode cX6_thief 42 = .ok (.invokestatic 110, 3) := by decide +kernel
theorem dX6_thief_45 : decode cX6_thief 45 = .ok (.ifCond .ne 10, 3) := by decide +kernel
theorem dX6_thief_48 : decode cX6_thief 48 = .ok (.aload_n 0, 1) := by decide +kernel
theorem dX6_thief_49 : decode cX6_thief 49 = .ok (.bipush (-6), 2) := by decide +kernel
theorem dX6_thief_51 : decode cX6_thief 51 = .ok (.invokevirtual 66, 3) := by decide +kernel
theorem dX6_thief_54 : decode cX6_thief 54 = .ok (.ireturn, 1) := by decide +kernel
theorem dX6_thief_55 : decode cX6_thief 55 = .ok (.aload_n 0, 1) := by decide +kernel
theorem dX6_thief_56 : decode cX6_thief 56 = .ok (.iload_n 2, 1) := by decide +kernel
theorem dX6_thief_57 : decode cX6_thief 57 = .ok (.invokevirtual 207, 3) := by decide +kernel
theorem dX6_thief_60 : decode cX6_thief 60 = .ok (.pop, 1) := by decide +kernel
theorem dX6_thief_61 : decode cX6_thief 61 = .ok (.aload_n 0, 1) := by decide +kernel
theorem dX6_thief_62 : decode cX6_thief 62 = .ok (.getfield 22, 3) := by decide +kernel
theorem dX6_thief_65 : decode cX6_thief 65 = .ok (.iload_n 3, 1) := by decide +kernel
theorem dX6_thief_66 : decode cX6_thief 66 = .ok (.invokevirtual 114, 3) := by decide +kernel
theorem dX6_thief_69 : decode cX6_thief 69 = .ok (.getfield 223, 3) := by decide +kernel
theorem dX6_thief_72 : decode cX6_thief 72 = .ok (.ireturn, 1) := by decide +kernel
theorem dX6_beat_0 : decode cX6_beat 0 = .ok (.iload_n 1, 1) := by decide +kernel
theorem dX6_beat_1 : decode cX6_beat 1 = .ok (.iconst 1, 1) := by decide +kernel
theorem dX6_beat_2 : decode cX6_beat 2 = .ok (.if_icmp .lt 9, 3) := by decide +kernel
theorem dX6_beat_5 : decode cX6_beat 5 = .ok (.iload_n 1, 1) := by decide +kernel
theorem dX6_beat_6 : decode cX6_beat 6 = .ok (.bipush 99, 2) := by decide +kernel
theorem dX6_beat_8 : decode cX6_beat 8 = .ok (.if_icmp .le 10, 3) := by decide +kernel
theorem dX6_beat_11 : decode cX6_beat 11 = .ok (.aload_n 0, 1) := by decide +kernel
theorem dX6_beat_12 : decode cX6_beat 12 = .ok (.bipush (-6), 2) := by decide +kernel
theorem dX6_beat_14 : decode cX6_beat 14 = .ok (.invokevirtual 66, 3) := by decide +kernel
theorem dX6_beat_17 : decode cX6_beat 17 = .ok (.ireturn, 1) := by decide +kernel
theorem dX6_beat_18 : decode cX6_beat 18 = .ok (.aload_n 0, 1) := by decide +kernel
theorem dX6_beat_19 : decode cX6_beat 19 = .ok (.getfield 18, 3) := by decide +kernel
theorem dX6_beat_22 : decode cX6_beat 22 = .ok (.iload_n 1, 1) := by decide +kernel
theorem dX6_beat_23 : decode cX6_beat 23 = .ok (.invokevirtual 233, 3) := by decide +kernel
theorem dX6_beat_26 : decode cX6_beat 26 = .ok (.ireturn, 1) := by decide +kernel
theorem dX6_strangers_0 : decode cX6_strangers 0 = .ok (.aload_n 0, 1) := by decide +kernel
theorem dX6_strangers_1 : decode cX6_strangers 1 = .ok (.getfield 18, 3) := by decide +kernel
theorem dX6_strangers_4 : decode cX6_strangers 4 = .ok (.getfield 255, 3) := by decide +kernel
theorem dX6_strangers_7 : decode cX6_strangers 7 = .ok (.ifCond .ne 10, 3) := by decide +kernel
theorem dX6_strangers_10 : decode cX6_strangers 10 = .ok (.aload_n 0, 1) := by decide +kernel
theorem dX6_strangers_11 : decode cX6_strangers 11 = .ok (.bipush (-5), 2) := by decide +kernel
theorem dX6_strangers_13 : decode cX6_strangers 13 = .ok (.invokevirtual 66, 3) := by decide +kernel
theorem dX6_strangers_16 : decode cX6_strangers 16 = .ok (.ireturn, 1) := by decide +kernel
theorem dX6_strangers_17 : decode cX6_strangers 17 = .ok (.iload_n 1, 1) := by decide +kernel
theorem dX6_strangers_18 : decode cX6_strangers 18 = .ok (.iconst 1, 1) := by decide +kernel
theorem dX6_strangers_19 : decode cX6_strangers 19 = .ok (.if_icmp .lt 9, 3) := by decide +kernel
theorem dX6_strangers_22 : decode cX6_strangers 22 = .ok (.iload_n 1, 1) := by decide +kernel
theorem dX6_strangers_23 : decode cX6_strangers 23 = .ok (.bipush 6, 2) := by decide +kernel
theorem dX6_strangers_25 : decode cX6_strangers 25 = .ok (.if_icmp .le 10, 3) := by decide +kernel
theorem dX6_strangers_28 : decode cX6_strangers 28 = .ok (.aload_n 0, 1) := by decide +kernel
theorem dX6_strangers_29 : decode cX6_strangers 29 = .ok (.bipush (-6), 2) := by decide +kernel
theorem dX6_strangers_31 : decode cX6_strangers 31 = .ok (.invokevirtual 66, 3) := by decide +kernel
theorem dX6_strangers_34 : decode cX6_strangers 34 = .ok (.ireturn, 1) := by decide +kernel
theorem dX6_strangers_35 : decode cX6_strangers 35 = .ok (.iconst 0, 1) := by decide +kernel
theorem dX6_strangers_36 : decode cX6_strangers 36 = .ok (.istore_n 2, 1) := by decide +kernel
theorem dX6_strangers_37 : decode cX6_strangers 37 = .ok (.iconst 0, 1) := by decide +kernel
theorem dX6_strangers_38 : decode cX6_strangers 38 = .ok (.istore_n 3, 1) := by decide +kernel
theorem dX6_strangers_39 : decode cX6_strangers 39 = .ok (.iload_n 3, 1) := by decide +kernel
theorem dX6_strangers_40 : decode cX6_strangers 40 = .ok (.iload_n 1, 1) := by decide +kernel
theorem dX6_strangers_41 : decode cX6_strangers 41 = .ok (.if_icmp .ge 32, 3) := by decide +kernel
theorem dX6_strangers_44 : decode cX6_strangers 44 = .ok (.aload_n 0, 1) := by decide +kernel
theorem dX6_strangers_45 : decode cX6_strangers 45 = .ok (.getfield 18, 3) := by decide +kernel
theorem dX6_strangers_48 : decode cX6_strangers 48 = .ok (.invokevirtual 167, 3) := by decide +kernel
theorem dX6_strangers_51 : decode cX6_strangers 51 = .ok (.ifCond .eq 16, 3) := by decide +kernel
theorem dX6_strangers_54 : decode cX6_strangers 54 = .ok (.aload_n 0, 1) := by decide +kernel
theorem dX6_strangers_55 : decode cX6_strangers 55 = .ok (.getfield 18, 3) := by decide +kernel
theorem dX6_strangers_58 : decode cX6_strangers 58 = .ok (.invokevirtual 264, 3) := by decide +kernel
theorem dX6_strangers_61 : decode cX6_strangers 61 = .ok (.ifCond .eq 6, 3) := by decide +kernel
theorem dX6_strangers_64 : decode cX6_strangers 64 = .ok (.iinc 2 1, 3) := by decide +kernel
theorem dX6_strangers_67 : decode cX6_strangers 67 = .ok (.iinc 3 1, 3) := by decide +kernel
theorem dX6_strangers_70 : decode cX6_strangers 70 = .ok (.goto (-31), 3) := by decide +kernel
theorem dX6_strangers_73 : decode cX6_strangers 73 = .ok (.iload_n 2, 1) := by decide +kernel
theorem dX6_strangers_74 : decode cX6_strangers 74 = .ok (.ireturn, 1) := by decide +kernel
theorem dX6_goes_0 : decode cX6_goes 0 = .ok (.aload_n 0, 1) := by decide +kernel
theorem dX6_goes_1 : decode cX6_goes 1 = .ok (.getfield 18, 3) := by decide +kernel
theorem dX6_goes_4 : decode cX6_goes 4 = .ok (.getfield 213, 3) := by decide +kernel
theorem dX6_goes_7 : decode cX6_goes 7 = .ok (.ifCond .ne 10, 3) := by decide +kernel
theorem dX6_goes_10 : decode cX6_goes 10 = .ok (.aload_n 0, 1) := by decide +kernel
theorem dX6_goes_11 : decode cX6_goes 11 = .ok (.bipush (-6), 2) := by decide +kernel
theorem dX6_goes_13 : decode cX6_goes 13 = .ok (.invokevirtual 66, 3) := by decide +kernel
theorem dX6_goes_16 : decode cX6_goes 16 = .ok (.ireturn, 1) := by decide +kernel
theorem dX6_goes_17 : decode cX6_goes 17 = .ok (.aload_n 0, 1) := by decide +kernel
theorem dX6_goes_18 : decode cX6_goes 18 = .ok (.getfield 18, 3) := by decide +kernel
theorem dX6_goes_21 : decode cX6_goes 21 = .ok (.dup, 1) := by decide +kernel
theorem dX6_goes_22 : decode cX6_goes 22 = .ok (.getfield 213, 3) := by decide +kernel
theorem dX6_goes_25 : decode cX6_goes 25 = .ok (.iconst 1, 1) := by decide +kernel
theorem dX6_goes_26 : decode cX6_goes 26 = .ok (.isub, 1) := by decide +kernel
theorem dX6_goes_27 : decode cX6_goes 27 = .ok (.putfield 213, 3) := by decide +kernel
theorem dX6_goes_30 : decode cX6_goes 30 = .ok (.aload_n 0, 1) := by decide +kernel
theorem dX6_goes_31 : decode cX6_goes 31 = .ok (.invokevirtual 267, 3) := by decide +kernel
theorem dX6_goes_34 : decode cX6_goes 34 = .ok (.aload_n 0, 1) := by decide +kernel
theorem dX6_goes_35 : decode cX6_goes 35 = .ok (.getfield 18, 3) := by decide +kernel
theorem dX6_goes_38 : decode cX6_goes 38 = .ok (.getfield 213, 3) := by decide +kernel
theorem dX6_goes_41 : decode cX6_goes 41 = .ok (.ireturn, 1) := by decide +kernel
theorem dX6_teach_0 : decode cX6_teach 0 = .ok (.aload_n 0, 1) := by decide +kernel
theorem dX6_teach_1 : decode cX6_teach 1 = .ok (.getfield 18, 3) := by decide +kernel
theorem dX6_teach_4 : decode cX6_teach 4 = .ok (.iload_n 1, 1) := by decide +kernel
theorem dX6_teach_5 : decode cX6_teach 5 = .ok (.invokevirtual 104, 3) := by decide +kernel
theorem dX6_teach_8 : decode cX6_teach 8 = .ok (.ifCond .eq 14, 3) := by decide +kernel
theorem dX6_teach_11 : decode cX6_teach 11 = .ok (.aload_n 0, 1) := by decide +kernel
theorem dX6_teach_12 : decode cX6_teach 12 = .ok (.getfield 18, 3) := by decide +kernel
theorem dX6_teach_15 : decode cX6_teach 15 = .ok (.iload_n 2, 1) := by decide +kernel
theorem dX6_teach_16 : decode cX6_teach 16 = .ok (.invokevirtual 152, 3) := by decide +kernel
theorem dX6_teach_19 : decode cX6_teach 19 = .ok (.ifCond .ne 9, 3) := by decide +kernel
theorem dX6_teach_22 : decode cX6_teach 22 = .ok (.aload_n 0, 1) := by decide +kernel
theorem dX6_teach_23 : decode cX6_teach 23 = .ok (.iconst (-1), 1) := by decide +kernel
theorem dX6_teach_24 : decode cX6_teach 24 = .ok (.invokevirtual 66, 3) := by decide +kernel
theorem dX6_teach_27 : decode cX6_teach 27 = .ok (.ireturn, 1) := by decide +kernel
theorem dX6_teach_28 : decode cX6_teach 28 = .ok (.aload_n 0, 1) := by decide +kernel
theorem dX6_teach_29 : decode cX6_teach 29 = .ok (.getfield 18, 3) := by decide +kernel
theorem dX6_teach_32 : decode cX6_teach 32 = .ok (.iload_n 1, 1) := by decide +kernel
theorem dX6_teach_33 : decode cX6_teach 33 = .ok (.invokevirtual 114, 3) := by decide +kernel
theorem dX6_teach_36 : decode cX6_teach 36 = .ok (.astore_n 3, 1) := by decide +kernel
theorem dX6_teach_37 : decode cX6_teach 37 = .ok (.aload_n 3, 1) := by decide +kernel
theorem dX6_teach_38 : decode cX6_teach 38 = .ok (.getfield 216, 3) := by decide +kernel
theorem dX6_teach_41 : decode cX6_teach 41 = .ok (.istore 4, 2) := by decide +kernel
theorem dX6_teach_43 : decode cX6_teach 43 = .ok (.aload_n 3, 1) := by decide +kernel
theorem dX6_teach_44 : decode cX6_teach 44 = .ok (.iload_n 2, 1) := by decide +kernel
theorem dX6_teach_45 : decode cX6_teach 45 = .ok (.putfield 216, 3) := by decide +kernel
theorem dX6_teach_48 : decode cX6_teach 48 = .ok (.aload_n 3, 1) := by decide +kernel
theorem dX6_teach_49 : decode cX6_teach 49 = .ok (.iconst 0, 1) := by decide +kernel
theorem dX6_teach_50 : decode cX6_teach 50 = .ok (.putfield 270, 3) := by decide +kernel
theorem dX6_teach_53 : decode cX6_teach 53 = .ok (.iload 4, 2) := by decide +kernel
theorem dX6_teach_55 : decode cX6_teach 55 = .ok (.ireturn, 1) := by decide +kernel
theorem dX6_seed_0 : decode cX6_seed 0 = .ok (.aload_n 0, 1) := by decide +kernel
theorem dX6_seed_1 : decode cX6_seed 1 = .ok (.getfield 18, 3) := by decide +kernel
theorem dX6_seed_4 : decode cX6_seed 4 = .ok (.getfield 273, 3) := by decide +kernel
theorem dX6_seed_7 : decode cX6_seed 7 = .ok (.istore_n 2, 1) := by decide +kernel
theorem dX6_seed_8 : decode cX6_seed 8 = .ok (.aload_n 0, 1) := by decide +kernel
theorem dX6_seed_9 : decode cX6_seed 9 = .ok (.getfield 18, 3) := by decide +kernel
theorem dX6_seed_12 : decode cX6_seed 12 = .ok (.iload_n 1, 1) := by decide +kernel
theorem dX6_seed_13 : decode cX6_seed 13 = .ok (.putfield 273, 3) := by decide +kernel
theorem dX6_seed_16 : decode cX6_seed 16 = .ok (.iload_n 2, 1) := by decide +kernel
theorem dX6_seed_17 : decode cX6_seed 17 = .ok (.ireturn, 1) := by decide +kernel
theorem dX6_act_0 : decode cX6_act 0 = .ok (.aload_n 0, 1) := by decide +kernel
theorem dX6_act_1 : decode cX6_act 1 = .ok (.getfield 38, 3) := by decide +kernel
theorem dX6_act_4 : decode cX6_act 4 = .ok (.invokevirtual 276, 3) := by decide +kernel
theorem dX6_act_7 : decode cX6_act 7 = .ok (.aload_n 0, 1) := by decide +kernel
theorem dX6_act_8 : decode cX6_act 8 = .ok (.getfield 18, 3) := by decide +kernel
theorem dX6_act_11 : decode cX6_act 11 = .ok (.iload_n 1, 1) := by decide +kernel
theorem dX6_act_12 : decode cX6_act 12 = .ok (.invokevirtual 104, 3) := by decide +kernel
theorem dX6_act_15 : decode cX6_act 15 = .ok (.ifCond .eq 11, 3) := by decide +kernel
theorem dX6_act_18 : decode cX6_act 18 = .ok (.iload_n 2, 1) := by decide +kernel
theorem dX6_act_19 : decode cX6_act 19 = .ok (.iconst 2, 1) := by decide +kernel
theorem dX6_act_20 : decode cX6_act 20 = .ok (.invokestatic 110, 3) := by decide +kernel
theorem dX6_act_23 : decode cX6_act 23 = .ok (.ifCond .ne 5, 3) := by decide +kernel
theorem dX6_act_26 : decode cX6_act 26 = .ok (.iconst 0, 1) := by decide +kernel
theorem dX6_act_27 : decode cX6_act 27 = .ok (.ireturn, 1) := by decide +kernel
theorem dX6_act_28 : decode cX6_act 28 = .ok (.aload_n 0, 1) := by decide +kernel
theorem dX6_act_29 : decode cX6_act 29 = .ok (.getfield 18, 3) := by decide +kernel
theorem dX6_act_32 : decode cX6_act 32 = .ok (.iload_n 1, 1) := by decide +kernel
theorem dX6_act_33 : decode cX6_act 33 = .ok (.invokevirtual 114, 3) := by decide +kernel
theorem dX6_act_36 : decode cX6_act 36 = .ok (.astore 4, 2) := by decide +kernel
theorem dX6_act_38 : decode cX6_act 38 = .ok (.aload_n 0, 1) := by decide +kernel
theorem dX6_act_39 : decode cX6_act 39 = .ok (.getfield 38, 3) := by decide +kernel
theorem dX6_act_42 : decode cX6_act 42 = .ok (.aload 4, 2) := by decide +kernel
theorem dX6_act_44 : decode cX6_act 44 = .ok (.getfield 118, 3) := by decide +kernel
theorem dX6_act_47 : decode cX6_act 47 = .ok (.iload_n 1, 1) := by decide +kernel
theorem dX6_act_48 : decode cX6_act 48 = .ok (.aload 4, 2) := by decide +kernel
theorem dX6_act_50 : decode cX6_act 50 = .ok (.getfield 279, 3) := by decide +kernel
theorem dX6_act_53 : decode cX6_act 53 = .ok (.iload_n 2, 1) := by decide +kernel
theorem dX6_act_54 : decode cX6_act 54 = .ok (.iload_n 3, 1) := by decide +kernel
theorem dX6_act_55 : decode cX6_act 55 = .ok (.invokevirtual 282, 3) := by decide +kernel
theorem dX6_act_58 : decode cX6_act 58 = .ok (.ireturn, 1) := by decide +kernel
theorem dX6_trace_0 : decode cX6_trace 0 = .ok (.aload_n 0, 1) := by decide +kernel
theorem dX6_trace_1 : decode cX6_trace 1 = .ok (.getfield 38, 3) := by decide +kernel
theorem dX6_trace_4 : decode cX6_trace 4 = .ok (.iload_n 1, 1) := by decide +kernel
theorem dX6_trace_5 : decode cX6_trace 5 = .ok (.invokevirtual 285, 3) := by decide +kernel
theorem dX6_trace_8 : decode cX6_trace 8 = .ok (.ireturn, 1) := by decide +kernel
theorem dX6_image_0 : decode cX6_image 0 = .ok (.aload_n 0, 1) := by decide +kernel
theorem dX6_image_1 : decode cX6_image 1 = .ok (.getfield 25, 3) := by decide +kernel
theorem dX6_image_4 : decode cX6_image 4 = .ok (.aload_n 0, 1) := by decide +kernel
theorem dX6_image_5 : decode cX6_image 5 = .ok (.getfield 18, 3) := by decide +kernel
theorem dX6_image_8 : decode cX6_image 8 = .ok (.invokevirtual 200, 3) := by decide +kernel
theorem dX6_image_11 : decode cX6_image 11 = .ok (.aload_n 0, 1) := by decide +kernel
theorem dX6_image_12 : decode cX6_image 12 = .ok (.iconst 1, 1) := by decide +kernel
theorem dX6_image_13 : decode cX6_image 13 = .ok (.putfield 53, 3) := by decide +kernel
theorem dX6_image_16 : decode cX6_image 16 = .ok (.aload_n 0, 1) := by decide +kernel
theorem dX6_image_17 : decode cX6_image 17 = .ok (.getfield 18, 3) := by decide +kernel
theorem dX6_image_20 : decode cX6_image 20 = .ok (.getfield 213, 3) := by decide +kernel
theorem dX6_image_23 : decode cX6_image 23 = .ok (.ireturn, 1) := by decide +kernel
theorem dX6_restore_0 : decode cX6_restore 0 = .ok (.aload_n 0, 1) := by decide +kernel
theorem dX6_restore_1 : decode cX6_restore 1 = .ok (.getfield 53, 3) := by decide +kernel
theorem dX6_restore_4 : decode cX6_restore 4 = .ok (.ifCond .ne 10, 3) := by decide +kernel
theorem dX6_restore_7 : decode cX6_restore 7 = .ok (.aload_n 0, 1) := by decide +kernel
theorem dX6_restore_8 : decode cX6_restore 8 = .ok (.bipush (-6), 2) := by decide +kernel
theorem dX6_restore_10 : decode cX6_restore 10 = .ok (.invokevirtual 66, 3) := by decide +kernel
theorem dX6_restore_13 : decode cX6_restore 13 = .ok (.ireturn, 1) := by decide +kernel
theorem dX6_restore_14 : decode cX6_restore 14 = .ok (.aload_n 0, 1) := by decide +kernel
theorem dX6_restore_15 : decode cX6_restore 15 = .ok (.getfield 18, 3) := by decide +kernel
theorem dX6_restore_18 : decode cX6_restore 18 = .ok (.aload_n 0, 1) := by decide +kernel
theorem dX6_restore_19 : decode cX6_restore 19 = .ok (.getfield 25, 3) := by decide +kernel
theorem dX6_restore_22 : decode cX6_restore 22 = .ok (.invokevirtual 200, 3) := by decide +kernel
theorem dX6_restore_25 : decode cX6_restore 25 = .ok (.aload_n 0, 1) := by decide +kernel
theorem dX6_restore_26 : decode cX6_restore 26 = .ok (.invokevirtual 267, 3) := by decide +kernel
theorem dX6_restore_29 : decode cX6_restore 29 = .ok (.aload_n 0, 1) := by decide +kernel
theorem dX6_restore_30 : decode cX6_restore 30 = .ok (.getfield 18, 3) := by decide +kernel
theorem dX6_restore_33 : decode cX6_restore 33 = .ok (.getfield 213, 3) := by decide +kernel
theorem dX6_restore_36 : decode cX6_restore 36 = .ok (.ireturn, 1) := by decide +kernel
theorem dX6_status_0 : decode cX6_status 0 = .ok (.iload_n 1, 1) := by decide +kernel
theorem dX6_status_1 : decode cX6_status 1 = .ok (.bipush 10, 2) := by decide +kernel
theorem dX6_status_3 : decode cX6_status 3 = .ok (.isub, 1) := by decide +kernel
theorem dX6_status_4 : decode cX6_status 4 = .ok (.istore_n 2, 1) := by decide +kernel
theorem dX6_status_5 : decode cX6_status 5 = .ok (.iload_n 2, 1) := by decide +kernel
theorem dX6_status_6 : decode cX6_status 6 = .ok (.iconst 1, 1) := by decide +kernel
theorem dX6_status_7 : decode cX6_status 7 = .ok (.if_icmp .lt 19, 3) := by decide +kernel
theorem dX6_status_10 : decode cX6_status 10 = .ok (.iload_n 2, 1) := by decide +kernel
theorem dX6_status_11 : decode cX6_status 11 = .ok (.aload_n 0, 1) := by decide +kernel
theorem dX6_status_12 : decode cX6_status 12 = .ok (.getfield 42, 3) := by decide +kernel
theorem dX6_status_15 : decode cX6_status 15 = .ok (.arraylength, 1) := by decide +kernel
theorem dX6_status_16 : decode cX6_status 16 = .ok (.if_icmp .ge 10, 3) := by decide +kernel
theorem dX6_status_19 : decode cX6_status 19 = .ok (.aload_n 0, 1) := by decide +kernel
theorem dX6_status_20 : decode cX6_status 20 = .ok (.getfield 42, 3) := by decide +kernel
theorem dX6_status_23 : decode cX6_status 23 = .ok (.iload_n 2, 1) := by decide +kernel
theorem dX6_status_24 : decode cX6_status 24 = .ok (.iaload, 1) := by decide +kernel
theorem dX6_status_25 : decode cX6_status 25 = .ok (.ireturn, 1) := by decide +kernel
theorem dX6_status_26 : decode cX6_status 26 = .ok (.iload_n 1, 1) := by decide +kernel
theorem dX6_status_27 : decode cX6_status 27 = .ok (.tableswitch 100 0 6 #[41, 49, 57, 68, 76, 84, 92], 41) := by decide +kernel
theorem dX6_status_68 : decode cX6_status 68 = .ok (.aload_n 0, 1) := by decide +kernel
theorem dX6_status_69 : decode cX6_status 69 = .ok (.getfield 18, 3) := by decide +kernel
theorem dX6_status_72 : decode cX6_status 72 = .ok (.getfield 255, 3) := by decide +kernel
theorem dX6_status_75 : decode cX6_status 75 = .ok (.ireturn, 1) := by decide +kernel
theorem dX6_status_76 : decode cX6_status 76 = .ok (.aload_n 0, 1) := by decide +kernel
theorem dX6_status_77 : decode cX6_status 77 = .ok (.getfield 18, 3) := by decide +kernel
theorem dX6_status_80 : decode cX6_status 80 = .ok (.getfield 213, 3) := by decide +kernel
theorem dX6_status_83 : decode cX6_status 83 = .ok (.ireturn, 1) := by decide +kernel
theorem dX6_status_84 : decode cX6_status 84 = .ok (.aload_n 0, 1) := by decide +kernel
theorem dX6_status_85 : decode cX6_status 85 = .ok (.getfield 18, 3) := by decide +kernel
theorem dX6_status_88 : decode cX6_status 88 = .ok (.getfield 288, 3) := by decide +kernel
theorem dX6_status_91 : decode cX6_status 91 = .ok (.invokestatic 292, 3) := by decide +kernel
theorem dX6_status_94 : decode cX6_status 94 = .ok (.ireturn, 1) := by decide +kernel
theorem dX6_status_95 : decode cX6_status 95 = .ok (.aload_n 0, 1) := by decide +kernel
theorem dX6_status_96 : decode cX6_status 96 = .ok (.getfield 18, 3) := by decide +kernel
theorem dX6_status_99 : decode cX6_status 99 = .ok (.getfield 298, 3) := by decide +kernel
theorem dX6_status_102 : decode cX6_status 102 = .ok (.ireturn, 1) := by decide +kernel
theorem dX6_status_103 : decode cX6_status 103 = .ok (.aload_n 0, 1) := by decide +kernel
theorem dX6_status_104 : decode cX6_status 104 = .ok (.getfield 18, 3) := by decide +kernel
theorem dX6_status_107 : decode cX6_status 107 = .ok (.getfield 301, 3) := by decide +kernel
theorem dX6_status_110 : decode cX6_status 110 = .ok (.ireturn, 1) := by decide +kernel
theorem dX6_status_111 : decode cX6_status 111 = .ok (.aload_n 0, 1) := by decide +kernel
theorem dX6_status_112 : decode cX6_status 112 = .ok (.getfield 18, 3) := by decide +kernel
theorem dX6_status_115 : decode cX6_status 115 = .ok (.getfield 273, 3) := by decide +kernel
theorem dX6_status_118 : decode cX6_status 118 = .ok (.ireturn, 1) := by decide +kernel
theorem dX6_status_119 : decode cX6_status 119 = .ok (.aload_n 0, 1) := by decide +kernel
theorem dX6_status_120 : decode cX6_status 120 = .ok (.getfield 38, 3) := by decide +kernel
theorem dX6_status_123 : decode cX6_status 123 = .ok (.getfield 304, 3) := by decide +kernel
theorem dX6_status_126 : decode cX6_status 126 = .ok (.ireturn, 1) := by decide +kernel
theorem dX6_status_127 : decode cX6_status 127 = .ok (.iconst (-1), 1) := by decide +kernel
theorem dX6_status_128 : decode cX6_status 128 = .ok (.ireturn, 1) := by decide +kernel
theorem dX6_isUpTo_0 : decode cX6_isUpTo 0 = .ok (.iload_n 0, 1) := by decide +kernel
theorem dX6_isUpTo_1 : decode cX6_isUpTo 1 = .ok (.ifCond .lt 12, 3) := by decide +kernel
theorem dX6_isUpTo_4 : decode cX6_isUpTo 4 = .ok (.iload_n 0, 1) := by decide +kernel
theorem dX6_isUpTo_5 : decode cX6_isUpTo 5 = .ok (.iload_n 1, 1) := by decide +kernel
theorem dX6_isUpTo_6 : decode cX6_isUpTo 6 = .ok (.if_icmp .gt 7, 3) := by decide +kernel
theorem dX6_isUpTo_9 : decode cX6_isUpTo 9 = .ok (.iconst 1, 1) := by decide +kernel
theorem dX6_isUpTo_10 : decode cX6_isUpTo 10 = .ok (.goto 4, 3) := by decide +kernel
theorem dX6_isUpTo_13 : decode cX6_isUpTo 13 = .ok (.iconst 0, 1) := by decide +kernel
theorem dX6_isUpTo_14 : decode cX6_isUpTo 14 = .ok (.ireturn, 1) := by decide +kernel
theorem dX6_refuse_0 : decode cX6_refuse 0 = .ok (.iload_n 1, 1) := by decide +kernel
theorem dX6_refuse_1 : decode cX6_refuse 1 = .ok (.bipush (-10), 2) := by decide +kernel
theorem dX6_refuse_3 : decode cX6_refuse 3 = .ok (.if_icmp .gt 10, 3) := by decide +kernel
theorem dX6_refuse_6 : decode cX6_refuse 6 = .ok (.bipush (-10), 2) := by decide +kernel
theorem dX6_refuse_8 : decode cX6_refuse 8 = .ok (.iload_n 1, 1) := by decide +kernel
theorem dX6_refuse_9 : decode cX6_refuse 9 = .ok (.isub, 1) := by decide +kernel
theorem dX6_refuse_10 : decode cX6_refuse 10 = .ok (.goto 5, 3) := by decide +kernel
theorem dX6_refuse_13 : decode cX6_refuse 13 = .ok (.iload_n 1, 1) := by decide +kernel
theorem dX6_refuse_14 : decode cX6_refuse 14 = .ok (.ineg, 1) := by decide +kernel
theorem dX6_refuse_15 : decode cX6_refuse 15 = .ok (.istore_n 2, 1) := by decide +kernel
theorem dX6_refuse_16 : decode cX6_refuse 16 = .ok (.iload_n 2, 1) := by decide +kernel
theorem dX6_refuse_17 : decode cX6_refuse 17 = .ok (.ifCond .lt 22, 3) := by decide +kernel
theorem dX6_refuse_20 : decode cX6_refuse 20 = .ok (.iload_n 2, 1) := by decide +kernel
theorem dX6_refuse_21 : decode cX6_refuse 21 = .ok (.aload_n 0, 1) := by decide +kernel
theorem dX6_refuse_22 : decode cX6_refuse 22 = .ok (.getfield 42, 3) := by decide +kernel
theorem dX6_refuse_25 : decode cX6_refuse 25 = .ok (.arraylength, 1) := by decide +kernel
theorem dX6_refuse_26 : decode cX6_refuse 26 = .ok (.if_icmp .ge 13, 3) := by decide +kernel
theorem dX6_refuse_29 : decode cX6_refuse 29 = .ok (.aload_n 0, 1) := by decide +kernel
theorem dX6_refuse_30 : decode cX6_refuse 30 = .ok (.getfield 42, 3) := by decide +kernel
theorem dX6_refuse_33 : decode cX6_refuse 33 = .ok (.iload_n 2, 1) := by decide +kernel
theorem dX6_refuse_34 : decode cX6_refuse 34 = .ok (.dup2, 1) := by decide +kernel
theorem dX6_refuse_35 : decode cX6_refuse 35 = .ok (.iaload, 1) := by decide +kernel
theorem dX6_refuse_36 : decode cX6_refuse 36 = .ok (.iconst 1, 1) := by decide +kernel
theorem dX6_refuse_37 : decode cX6_refuse 37 = .ok (.iadd, 1) := by decide +kernel
theorem dX6_refuse_38 : decode cX6_refuse 38 = .ok (.iastore, 1) := by decide +kernel
theorem dX6_refuse_39 : decode cX6_refuse 39 = .ok (.iload_n 1, 1) := by decide +kernel
theorem dX6_refuse_40 : decode cX6_refuse 40 = .ok (.ireturn, 1) := by decide +kernel
theorem dX6_shelfBy_0 : decode cX6_shelfBy 0 = .ok (.iload_n 1, 1) := by decide +kernel
theorem dX6_shelfBy_1 : decode cX6_shelfBy 1 = .ok (.ifCond .lt 21, 3) := by decide +kernel
theorem dX6_shelfBy_4 : decode cX6_shelfBy 4 = .ok (.iload_n 1, 1) := by decide +kernel
theorem dX6_shelfBy_5 : decode cX6_shelfBy 5 = .ok (.aload_n 0, 1) := by decide +kernel
theorem dX6_shelfBy_6 : decode cX6_shelfBy 6 = .ok (.getfield 11, 3) := by decide +kernel
theorem dX6_shelfBy_9 : decode cX6_shelfBy 9 = .ok (.arraylength, 1) := by decide +kernel
theorem dX6_shelfBy_10 : decode cX6_shelfBy 10 = .ok (.if_icmp .ge 12, 3) := by decide +kernel
theorem dX6_shelfBy_13 : decode cX6_shelfBy 13 = .ok (.aload_n 0, 1) := by decide +kernel
theorem dX6_shelfBy_14 : decode cX6_shelfBy 14 = .ok (.getfield 11, 3) := by decide +kernel
theorem dX6_shelfBy_17 : decode cX6_shelfBy 17 = .ok (.iload_n 1, 1) := by decide +kernel
theorem dX6_shelfBy_18 : decode cX6_shelfBy 18 = .ok (.aaload, 1) := by decide +kernel
theorem dX6_shelfBy_19 : decode cX6_shelfBy 19 = .ok (.goto 4, 3) := by decide +kernel
theorem dX6_shelfBy_22 : decode cX6_shelfBy 22 = .ok (.aconst_null, 1) := by decide +kernel
theorem dX6_shelfBy_23 : decode cX6_shelfBy 23 = .ok (.areturn, 1) := by decide +kernel
theorem dX6_whyNoRow_0 : decode cX6_whyNoRow 0 = .ok (.aload_n 0, 1) := by decide +kernel
theorem dX6_whyNoRow_1 : decode cX6_whyNoRow 1 = .ok (.ifnonnull 5, 3) := by decide +kernel
theorem dX6_whyNoRow_4 : decode cX6_whyNoRow 4 = .ok (.iconst (-1), 1) := by decide +kernel
theorem dX6_whyNoRow_5 : decode cX6_whyNoRow 5 = .ok (.ireturn, 1) := by decide +kernel
theorem dX6_whyNoRow_6 : decode cX6_whyNoRow 6 = .ok (.aload_n 0, 1) := by decide +kernel
theorem dX6_whyNoRow_7 : decode cX6_whyNoRow 7 = .ok (.invokevirtual 90, 3) := by decide +kernel
theorem dX6_whyNoRow_10 : decode cX6_whyNoRow 10 = .ok (.ifCond .eq 6, 3) := by decide +kernel
theorem dX6_whyNoRow_13 : decode cX6_whyNoRow 13 = .ok (.bipush (-2), 2) := by decide +kernel
theorem dX6_whyNoRow_15 : decode cX6_whyNoRow 15 = .ok (.ireturn, 1) := by decide +kernel
theorem dX6_whyNoRow_16 : decode cX6_whyNoRow 16 = .ok (.aload_n 0, 1) := by decide +kernel
theorem dX6_whyNoRow_17 : decode cX6_whyNoRow 17 = .ok (.invokevirtual 86, 3) := by decide +kernel
theorem dX6_whyNoRow_20 : decode cX6_whyNoRow 20 = .ok (.ifCond .eq 7, 3) := by decide +kernel
theorem dX6_whyNoRow_23 : decode cX6_whyNoRow 23 = .ok (.iconst 0, 1) := by decide +kernel
theorem dX6_whyNoRow_24 : decode cX6_whyNoRow 24 = .ok (.goto 5, 3) := by decide +kernel
theorem dX6_whyNoRow_27 : decode cX6_whyNoRow 27 = .ok (.bipush (-3), 2) := by decide +kernel
theorem dX6_whyNoRow_29 : decode cX6_whyNoRow 29 = .ok (.ireturn, 1) := by decide +kernel
theorem dX6_whyNotTold_0 : decode cX6_whyNotTold 0 = .ok (.aload_n 0, 1) := by decide +kernel
theorem dX6_whyNotTold_1 : decode cX6_whyNotTold 1 = .ok (.getfield 18, 3) := by decide +kernel
theorem dX6_whyNotTold_4 : decode cX6_whyNotTold 4 = .ok (.iload_n 2, 1) := by decide +kernel
theorem dX6_whyNotTold_5 : decode cX6_whyNotTold 5 = .ok (.invokevirtual 104, 3) := by decide +kernel
theorem dX6_whyNotTold_8 : decode cX6_whyNotTold 8 = .ok (.ifCond .ne 5, 3) := by decide +kernel
theorem dX6_whyNotTold_11 : decode cX6_whyNotTold 11 = .ok (.iconst (-1), 1) := by decide +kernel
theorem dX6_whyNotTold_12 : decode cX6_whyNotTold 12 = .ok (.ireturn, 1) := by decide +kernel
theorem dX6_whyNotTold_13 : decode cX6_whyNotTold 13 = .ok (.iload_n 3, 1) := by decide +kernel
theorem dX6_whyNotTold_14 : decode cX6_whyNotTold 14 = .ok (.iconst 4, 1) := by decide +kernel
theorem dX6_whyNotTold_15 : decode cX6_whyNotTold 15 = .ok (.invokestatic 110, 3) := by decide +kernel
theorem dX6_whyNotTold_18 : decode cX6_whyNotTold 18 = .ok (.ifCond .ne 6, 3) := by decide +kernel
theorem dX6_whyNotTold_21 : decode cX6_whyNotTold 21 = .ok (.bipush (-5), 2) := by decide +kernel
theorem dX6_whyNotTold_23 : decode cX6_whyNotTold 23 = .ok (.ireturn, 1) := by decide +kernel
theorem dX6_whyNotTold_24 : decode cX6_whyNotTold 24 = .ok (.iload_n 1, 1) := by decide +kernel
theorem dX6_whyNotTold_25 : decode cX6_whyNotTold 25 = .ok (.sipush 400, 3) := by decide +kernel
theorem dX6_whyNotTold_28 : decode cX6_whyNotTold 28 = .ok (.invokestatic 110, 3) := by decide +kernel
theorem dX6_whyNotTold_31 : decode cX6_whyNotTold 31 = .ok (.ifCond .eq 7, 3) := by decide +kernel
theorem dX6_whyNotTold_34 : decode cX6_whyNotTold 34 = .ok (.iconst 0, 1) := by decide +kernel
theorem dX6_whyNotTold_35 : decode cX6_whyNotTold 35 = .ok (.goto 5, 3) := by decide +kernel
theorem dX6_whyNotTold_38 : decode cX6_whyNotTold 38 = .ok (.bipush (-6), 2) := by decide +kernel
theorem dX6_whyNotTold_40 : decode cX6_whyNotTold 40 = .ok (.ireturn, 1) := by decide +kernel
theorem dX6_whyNoSights_0 : decode cX6_whyNoSights 0 = .ok (.iload_n 2, 1) := by decide +kernel
theorem dX6_whyNoSights_1 : decode cX6_whyNoSights 1 = .ok (.ifCond .ge 6, 3) := by decide +kernel
theorem dX6_whyNoSights_4 : decode cX6_whyNoSights 4 = .ok (.bipush (-4), 2) := by decide +kernel
theorem dX6_whyNoSights_6 : decode cX6_whyNoSights 6 = .ok (.ireturn, 1) := by decide +kernel
theorem dX6_whyNoSights_7 : decode cX6_whyNoSights 7 = .ok (.iload_n 2, 1) := by decide +kernel
theorem dX6_whyNoSights_8 : decode cX6_whyNoSights 8 = .ok (.aload_n 1, 1) := by decide +kernel
theorem dX6_whyNoSights_9 : decode cX6_whyNoSights 9 = .ok (.getfield 130, 3) := by decide +kernel
theorem dX6_whyNoSights_12 : decode cX6_whyNoSights 12 = .ok (.iconst 3, 1) := by decide +kernel
theorem dX6_whyNoSights_13 : decode cX6_whyNoSights 13 = .ok (.idiv, 1) := by decide +kernel
theorem dX6_whyNoSights_14 : decode cX6_whyNoSights 14 = .ok (.if_icmp .le 6, 3) := by decide +kernel
theorem dX6_whyNoSights_17 : decode cX6_whyNoSights 17 = .ok (.bipush (-5), 2) := by decide +kernel
theorem dX6_whyNoSights_19 : decode cX6_whyNoSights 19 = .ok (.ireturn, 1) := by decide +kernel
theorem dX6_whyNoSights_20 : decode cX6_whyNoSights 20 = .ok (.iload_n 2, 1) := by decide +kernel
theorem dX6_whyNoSights_21 : decode cX6_whyNoSights 21 = .ok (.bipush 10, 2) := by decide +kernel
theorem dX6_whyNoSights_23 : decode cX6_whyNoSights 23 = .ok (.if_icmp .le 6, 3) := by decide +kernel
theorem dX6_whyNoSights_26 : decode cX6_whyNoSights 26 = .ok (.bipush (-6), 2) := by decide +kernel
theorem dX6_whyNoSights_28 : decode cX6_whyNoSights 28 = .ok (.ireturn, 1) := by decide +kernel
theorem dX6_whyNoSights_29 : decode cX6_whyNoSights 29 = .ok (.iconst 0, 1) := by decide +kernel
theorem dX6_whyNoSights_30 : decode cX6_whyNoSights 30 = .ok (.istore_n 3, 1) := by decide +kernel
theorem dX6_whyNoSights_31 : decode cX6_whyNoSights 31 = .ok (.iload_n 3, 1) := by decide +kernel
theorem dX6_whyNoSights_32 : decode cX6_whyNoSights 32 = .ok (.iload_n 2, 1) := by decide +kernel
theorem dX6_whyNoSights_33 : decode cX6_whyNoSights 33 = .ok (.if_icmp .ge 64, 3) := by decide +kernel
theorem dX6_whyNoSights_36 : decode cX6_whyNoSights 36 = .ok (.aload_n 1, 1) := by decide +kernel
theorem dX6_whyNoSights_37 : decode cX6_whyNoSights 37 = .ok (.iconst 3, 1) := by decide +kernel
theorem dX6_whyNoSights_38 : decode cX6_whyNoSights 38 = .ok (.iload_n 3, 1) := by decide +kernel
theorem dX6_whyNoSights_39 : decode cX6_whyNoSights 39 = .ok (.imul, 1) := by decide +kernel
theorem dX6_whyNoSights_40 : decode cX6_whyNoSights 40 = .ok (.invokevirtual 133, 3) := by decide +kernel
theorem dX6_whyNoSights_43 : decode cX6_whyNoSights 43 = .ok (.sipush 400, 3) := by decide +kernel
theorem dX6_whyNoSights_46 : decode cX6_whyNoSights 46 = .ok (.invokestatic 110, 3) := by decide +kernel
theorem dX6_whyNoSights_49 : decode cX6_whyNoSights 49 = .ok (.ifCond .eq 39, 3) := by decide +kernel
theorem dX6_whyNoSights_52 : decode cX6_whyNoSights 52 = .ok (.aload_n 1, 1) := by decide +kernel
theorem dX6_whyNoSights_53 : decode cX6_whyNoSights 53 = .ok (.iconst 3, 1) := by decide +kernel
theorem dX6_whyNoSights_54 : decode cX6_whyNoSights 54 = .ok (.iload_n 3, 1) := by decide +kernel
theorem dX6_whyNoSights_55 : decode cX6_whyNoSights 55 = .ok (.imul, 1) := by decide +kernel
theorem dX6_whyNoSights_56 : decode cX6_whyNoSights 56 = .ok (.iconst 1, 1) := by decide +kernel
theorem dX6_whyNoSights_57 : decode cX6_whyNoSights 57 = .ok (.iadd, 1) := by decide +kernel
theorem dX6_whyNoSights_58 : decode cX6_whyNoSights 58 = .ok (.invokevirtual 133, 3) := by decide +kernel
theorem dX6_whyNoSights_61 : decode cX6_whyNoSights 61 = .ok (.bipush 48, 2) := by decide +kernel
theorem dX6_whyNoSights_63 : decode cX6_whyNoSights 63 = .ok (.invokestatic 110, 3) := by decide +kernel
theorem dX6_whyNoSights_66 : decode cX6_whyNoSights 66 = .ok (.ifCond .eq 22, 3) := by decide +kernel
theorem dX6_whyNoSights_69 : decode cX6_whyNoSights 69 = .ok (.aload_n 0, 1) := by decide +kernel
theorem dX6_whyNoSights_70 : decode cX6_whyNoSights 70 = .ok (.getfield 18, 3) := by decide +kernel
theorem dX6_whyNoSights_73 : decode cX6_whyNoSights 73 = .ok (.aload_n 1, 1) := by decide +kernel
theorem dX6_whyNoSights_74 : decode cX6_whyNoSights 74 = .ok (.iconst 3, 1) := by decide +kernel
theorem dX6_whyNoSights_75 : decode cX6_whyNoSights 75 = .ok (.iload_n 3, 1) := by decide +kernel
theorem dX6_whyNoSights_76 : decode cX6_whyNoSights 76 = .ok (.imul, 1) := by decide +kernel
theorem dX6_whyNoSights_77 : decode cX6_whyNoSights 77 = .ok (.iconst 2, 1) := by decide +kernel
theorem dX6_whyNoSights_78 : decode cX6_whyNoSights 78 = .ok (.iadd, 1) := by decide +kernel
theorem dX6_whyNoSights_79 : decode cX6_whyNoSights 79 = .ok (.invokevirtual 133, 3) := by decide +kernel
theorem dX6_whyNoSights_82 : decode cX6_whyNoSights 82 = .ok (.invokevirtual 152, 3) := by decide +kernel
theorem dX6_whyNoSights_85 : decode cX6_whyNoSights 85 = .ok (.ifCond .ne 6, 3) := by decide +kernel
theorem dX6_whyNoSights_88 : decode cX6_whyNoSights 88 = .ok (.bipush (-6), 2) := by decide +kernel
theorem dX6_whyNoSights_90 : decode cX6_whyNoSights 90 = .ok (.ireturn, 1) := by decide +kernel
theorem dX6_whyNoSights_91 : decode cX6_whyNoSights 91 = .ok (.iinc 3 1, 3) := by decide +kernel
theorem dX6_whyNoSights_94 : decode cX6_whyNoSights 94 = .ok (.goto (-63), 3) := by decide +kernel
theorem dX6_whyNoSights_97 : decode cX6_whyNoSights 97 = .ok (.iconst 0, 1) := by decide +kernel
theorem dX6_whyNoSights_98 : decode cX6_whyNoSights 98 = .ok (.ireturn, 1) := by decide +kernel
theorem dX6_seen_0 : decode cX6_seen 0 = .ok (.iconst 0, 1) := by decide +kernel
theorem dX6_seen_1 : decode cX6_seen 1 = .ok (.istore_n 3, 1) := by decide +kernel
theorem dX6_seen_2 : decode cX6_seen 2 = .ok (.iconst 0, 1) := by decide +kernel
theorem dX6_seen_3 : decode cX6_seen 3 = .ok (.istore 4, 2) := by decide +kernel
theorem dX6_seen_5 : decode cX6_seen 5 = .ok (.iload 4, 2) := by decide +kernel
theorem dX6_seen_7 : decode cX6_seen 7 = .ok (.iload_n 2, 1) := by decide +kernel
theorem dX6_seen_8 : decode cX6_seen 8 = .ok (.if_icmp .ge 22, 3) := by decide +kernel
theorem dX6_seen_11 : decode cX6_seen 11 = .ok (.iload_n 3, 1) := by decide +kernel
theorem dX6_seen_12 : decode cX6_seen 12 = .ok (.aload_n 1, 1) := by decide +kernel
theorem dX6_seen_13 : decode cX6_seen 13 = .ok (.iconst 3, 1) := by decide +kernel
theorem dX6_seen_14 : decode cX6_seen 14 = .ok (.iload 4, 2) := by decide +kernel
theorem dX6_seen_16 : decode cX6_seen 16 = .ok (.imul, 1) := by decide +kernel
theorem dX6_seen_17 : decode cX6_seen 17 = .ok (.invokevirtual 133, 3) := by decide +kernel
theorem dX6_seen_20 : decode cX6_seen 20 = .ok (.invokestatic 307, 3) := by decide +kernel
theorem dX6_seen_23 : decode cX6_seen 23 = .ok (.istore_n 3, 1) := by decide +kernel
theorem dX6_seen_24 : decode cX6_seen 24 = .ok (.iinc 4 1, 3) := by decide +kernel
theorem dX6_seen_27 : decode cX6_seen 27 = .ok (.goto (-22), 3) := by decide +kernel
theorem dX6_seen_30 : decode cX6_seen 30 = .ok (.iconst 0, 1) := by decide +kernel
theorem dX6_seen_31 : decode cX6_seen 31 = .ok (.istore 4, 2) := by decide +kernel
theorem dX6_seen_33 : decode cX6_seen 33 = .ok (.iconst 0, 1) := by decide +kernel
theorem dX6_seen_34 : decode cX6_seen 34 = .ok (.istore 5, 2) := by decide +kernel
theorem dX6_seen_36 : decode cX6_seen 36 = .ok (.iload 5, 2) := by decide +kernel
theorem dX6_seen_38 : decode cX6_seen 38 = .ok (.iload_n 3, 1) := by decide +kernel
theorem dX6_seen_39 : decode cX6_seen 39 = .ok (.if_icmp .gt 78, 3) := by decide +kernel
theorem dX6_seen_42 : decode cX6_seen 42 = .ok (.iconst 0, 1) := by decide +kernel
theorem dX6_seen_43 : decode cX6_seen 43 = .ok (.istore 6, 2) := by decide +kernel
theorem dX6_seen_45 : decode cX6_seen 45 = .ok (.iload 6, 2) := by decide +kernel
theorem dX6_seen_47 : decode cX6_seen 47 = .ok (.iload_n 2, 1) := by decide +kernel
theorem dX6_seen_48 : decode cX6_seen 48 = .ok (.if_icmp .ge 55, 3) := by decide +kernel
theorem dX6_seen_51 : decode cX6_seen 51 = .ok (.aload_n 1, 1) := by decide +kernel
theorem dX6_seen_52 : decode cX6_seen 52 = .ok (.iconst 3, 1) := by decide +kernel
theorem dX6_seen_53 : decode cX6_seen 53 = .ok (.iload 6, 2) := by decide +kernel
theorem dX6_seen_55 : decode cX6_seen 55 = .ok (.imul, 1) := by decide +kernel
theorem dX6_seen_56 : decode cX6_seen 56 = .ok (.invokevirtual 133, 3) := by decide +kernel
theorem dX6_seen_59 : decode cX6_seen 59 = .ok (.iload 5, 2) := by decide +kernel
theorem dX6_seen_61 : decode cX6_seen 61 = .ok (.if_icmp .ne 36, 3) := by decide +kernel
theorem dX6_seen_64 : decode cX6_seen 64 = .ok (.aload_n 0, 1) := by decide +kernel
theorem dX6_seen_65 : decode cX6_seen 65 = .ok (.getfield 22, 3) := by decide +kernel
theorem dX6_seen_68 : decode cX6_seen 68 = .ok (.aload_n 1, 1) := by decide +kernel
theorem dX6_seen_69 : decode cX6_seen 69 = .ok (.iconst 3, 1) := by decide +kernel
theorem dX6_seen_70 : decode cX6_seen 70 = .ok (.iload 6, 2) := by decide +kernel
theorem dX6_seen_72 : decode cX6_seen 72 = .ok (.imul, 1) := by decide +kernel
theorem dX6_seen_73 : decode cX6_seen 73 = .ok (.iconst 1, 1) := by decide +kernel
theorem dX6_seen_74 : decode cX6_seen 74 = .ok (.iadd, 1) := by decide +kernel
theorem dX6_seen_75 : decode cX6_seen 75 = .ok (.invokevirtual 133, 3) := by decide +kernel
theorem dX6_seen_78 : decode cX6_seen 78 = .ok (.aload_n 1, 1) := by decide +kernel
theorem dX6_seen_79 : decode cX6_seen 79 = .ok (.iconst 3, 1) := by decide +kernel
theorem dX6_seen_80 : decode cX6_seen 80 = .ok (.iload 6, 2) := by decide +kernel
theorem dX6_seen_82 : decode cX6_seen 82 = .ok (.imul, 1) := by decide +kernel
theorem dX6_seen_83 : decode cX6_seen 83 = .ok (.iconst 2, 1) := by decide +kernel
theorem dX6_seen_84 : decode cX6_seen 84 = .ok (.iadd, 1) := by decide +kernel
theorem dX6_seen_85 : decode cX6_seen 85 = .ok (.invokevirtual 133, 3) := by decide +kernel
theorem dX6_seen_88 : decode cX6_seen 88 = .ok (.invokevirtual 312, 3) := by decide +kernel
theorem dX6_seen_91 : decode cX6_seen 91 = .ok (.ifCond .eq 6, 3) := by decide +kernel
theorem dX6_seen_94 : decode cX6_seen 94 = .ok (.iinc 4 1, 3) := by decide +kernel
theorem dX6_seen_97 : decode cX6_seen 97 = .ok (.iinc 6 1, 3) := by decide +kernel
theorem dX6_seen_100 : decode cX6_seen 100 = .ok (.goto (-55), 3) := by decide +kernel
theorem dX6_seen_103 : decode cX6_seen 103 = .ok (.aload_n 0, 1) := by decide +kernel
theorem dX6_seen_104 : decode cX6_seen 104 = .ok (.getfield 22, 3) := by decide +kernel
theorem dX6_seen_107 : decode cX6_seen 107 = .ok (.invokevirtual 219, 3) := by decide +kernel
theorem dX6_seen_110 : decode cX6_seen 110 = .ok (.pop, 1) := by decide +kernel
theorem dX6_seen_111 : decode cX6_seen 111 = .ok (.iinc 5 1, 3) := by decide +kernel
theorem dX6_seen_114 : decode cX6_seen 114 = .ok (.goto (-78), 3) := by decide +kernel
theorem dX6_seen_117 : decode cX6_seen 117 = .ok (.iload 4, 2) := by decide +kernel
theorem dX6_seen_119 : decode cX6_seen 119 = .ok (.ireturn, 1) := by decide +kernel
theorem dX6_think_0 : decode cX6_think 0 = .ok (.aload_n 0, 1) := by decide +kernel
theorem dX6_think_1 : decode cX6_think 1 = .ok (.getfield 22, 3) := by decide +kernel
theorem dX6_think_4 : decode cX6_think 4 = .ok (.aload_n 0, 1) := by decide +kernel
theorem dX6_think_5 : decode cX6_think 5 = .ok (.getfield 18, 3) := by decide +kernel
theorem dX6_think_8 : decode cX6_think 8 = .ok (.invokevirtual 200, 3) := by decide +kernel
theorem dX6_think_11 : decode cX6_think 11 = .ok (.aload_n 0, 1) := by decide +kernel
theorem dX6_think_12 : decode cX6_think 12 = .ok (.getfield 22, 3) := by decide +kernel
theorem dX6_think_15 : decode cX6_think 15 = .ok (.iload_n 1, 1) := by decide +kernel
theorem dX6_think_16 : decode cX6_think 16 = .ok (.invokevirtual 233, 3) := by decide +kernel
theorem dX6_think_19 : decode cX6_think 19 = .ok (.ireturn, 1) := by decide +kernel
theorem dX6_sameBefore_0 : decode cX6_sameBefore 0 = .ok (.iload_n 1, 1) := by decide +kernel
theorem dX6_sameBefore_1 : decode cX6_sameBefore 1 = .ok (.ifCond .lt 21, 3) := by decide +kernel
theorem dX6_sameBefore_4 : decode cX6_sameBefore 4 = .ok (.iload_n 1, 1) := by decide +kernel
theorem dX6_sameBefore_5 : decode cX6_sameBefore 5 = .ok (.aload_n 0, 1) := by decide +kernel
theorem dX6_sameBefore_6 : decode cX6_sameBefore 6 = .ok (.getfield 46, 3) := by decide +kernel
theorem dX6_sameBefore_9 : decode cX6_sameBefore 9 = .ok (.arraylength, 1) := by decide +kernel
theorem dX6_sameBefore_10 : decode cX6_sameBefore 10 = .ok (.if_icmp .ge 12, 3) := by decide +kernel
theorem dX6_sameBefore_13 : decode cX6_sameBefore 13 = .ok (.iload_n 1, 1) := by decide +kernel
theorem dX6_sameBefore_14 : decode cX6_sameBefore 14 = .ok (.aload_n 0, 1) := by decide +kernel
theorem dX6_sameBefore_15 : decode cX6_sameBefore 15 = .ok (.getfield 50, 3) := by decide +kernel
theorem dX6_sameBefore_18 : decode cX6_sameBefore 18 = .ok (.arraylength, 1) := by decide +kernel
theorem dX6_sameBefore_19 : decode cX6_sameBefore 19 = .ok (.if_icmp .lt 5, 3) := by decide +kernel
theorem dX6_sameBefore_22 : decode cX6_sameBefore 22 = .ok (.iconst (-1), 1) := by decide +kernel
theorem dX6_sameBefore_23 : decode cX6_sameBefore 23 = .ok (.ireturn, 1) := by decide +kernel
theorem dX6_sameBefore_24 : decode cX6_sameBefore 24 = .ok (.iconst 0, 1) := by decide +kernel
theorem dX6_sameBefore_25 : decode cX6_sameBefore 25 = .ok (.istore_n 2, 1) := by decide +kernel
theorem dX6_sameBefore_26 : decode cX6_sameBefore 26 = .ok (.iload_n 2, 1) := by decide +kernel
theorem dX6_sameBefore_27 : decode cX6_sameBefore 27 = .ok (.iload_n 1, 1) := by decide +kernel
theorem dX6_sameBefore_28 : decode cX6_sameBefore 28 = .ok (.if_icmp .ge 43, 3) := by decide +kernel
theorem dX6_sameBefore_31 : decode cX6_sameBefore 31 = .ok (.aload_n 0, 1) := by decide +kernel
theorem dX6_sameBefore_32 : decode cX6_sameBefore 32 = .ok (.getfield 46, 3) := by decide +kernel
theorem dX6_sameBefore_35 : decode cX6_sameBefore 35 = .ok (.iload_n 2, 1) := by decide +kernel
theorem dX6_sameBefore_36 : decode cX6_sameBefore 36 = .ok (.laload, 1) := by decide +kernel
theorem dX6_sameBefore_37 : decode cX6_sameBefore 37 = .ok (.aload_n 0, 1) := by decide +kernel
theorem dX6_sameBefore_38 : decode cX6_sameBefore 38 = .ok (.getfield 46, 3) := by decide +kernel
theorem dX6_sameBefore_41 : decode cX6_sameBefore 41 = .ok (.iload_n 1, 1) := by decide +kernel
theorem dX6_sameBefore_42 : decode cX6_sameBefore 42 = .ok (.laload, 1) := by decide +kernel
theorem dX6_sameBefore_43 : decode cX6_sameBefore 43 = .ok (.lcmp, 1) := by decide +kernel
theorem dX6_sameBefore_44 : decode cX6_sameBefore 44 = .ok (.ifCond .ne 21, 3) := by decide +kernel
theorem dX6_sameBefore_47 : decode cX6_sameBefore 47 = .ok (.aload_n 0, 1) := by decide +kernel
theorem dX6_sameBefore_48 : decode cX6_sameBefore 48 = .ok (.getfield 50, 3) := by decide +kernel
theorem dX6_sameBefore_51 : decode cX6_sameBefore 51 = .ok (.iload_n 2, 1) := by decide +kernel
theorem dX6_sameBefore_52 : decode cX6_sameBefore 52 = .ok (.laload, 1) := by decide +kernel
theorem dX6_sameBefore_53 : decode cX6_sameBefore 53 = .ok (.aload_n 0, 1) := by decide +kernel
theorem dX6_sameBefore_54 : decode cX6_sameBefore 54 = .ok (.getfield 50, 3) := by decide +kernel
theorem dX6_sameBefore_57 : decode cX6_sameBefore 57 = .ok (.iload_n 1, 1) := by decide +kernel
theorem dX6_sameBefore_58 : decode cX6_sameBefore 58 = .ok (.laload, 1) := by decide +kernel
theorem dX6_sameBefore_59 : decode cX6_sameBefore 59 = .ok (.lcmp, 1) := by decide +kernel
theorem dX6_sameBefore_60 : decode cX6_sameBefore 60 = .ok (.ifCond .ne 5, 3) := by decide +kernel
theorem dX6_sameBefore_63 : decode cX6_sameBefore 63 = .ok (.iload_n 2, 1) := by decide +kernel
theorem dX6_sameBefore_64 : decode cX6_sameBefore 64 = .ok (.ireturn, 1) := by decide +kernel
theorem dX6_sameBefore_65 : decode cX6_sameBefore 65 = .ok (.iinc 2 1, 3) := by decide +kernel
theorem dX6_sameBefore_68 : decode cX6_sameBefore 68 = .ok (.goto (-42), 3) := by decide +kernel
theorem dX6_sameBefore_71 : decode cX6_sameBefore 71 = .ok (.iconst (-1), 1) := by decide +kernel
theorem dX6_sameBefore_72 : decode cX6_sameBefore 72 = .ok (.ireturn, 1) := by decide +kernel
theorem dX6_beatOfHire_0 : decode cX6_beatOfHire 0 = .ok (.aload_n 0, 1) := by decide +kernel
theorem dX6_beatOfHire_1 : decode cX6_beatOfHire 1 = .ok (.getfield 22, 3) := by decide +kernel
theorem dX6_beatOfHire_4 : decode cX6_beatOfHire 4 = .ok (.aload_n 0, 1) := by decide +kernel
theorem dX6_beatOfHire_5 : decode cX6_beatOfHire 5 = .ok (.getfield 18, 3) := by decide +kernel
theorem dX6_beatOfHire_8 : decode cX6_beatOfHire 8 = .ok (.invokevirtual 315, 3) := by decide +kernel
theorem dX6_beatOfHire_11 : decode cX6_beatOfHire 11 = .ok (.aload_n 0, 1) := by decide +kernel
theorem dX6_beatOfHire_12 : decode cX6_beatOfHire 12 = .ok (.getfield 22, 3) := by decide +kernel
theorem dX6_beatOfHire_15 : decode cX6_beatOfHire 15 = .ok (.iconst 1, 1) := by decide +kernel
theorem dX6_beatOfHire_16 : decode cX6_beatOfHire 16 = .ok (.iload_n 2, 1) := by decide +kernel
theorem dX6_beatOfHire_17 : decode cX6_beatOfHire 17 = .ok (.iconst 4, 1) := by decide +kernel
theorem dX6_beatOfHire_18 : decode cX6_beatOfHire 18 = .ok (.idiv, 1) := by decide +kernel
theorem dX6_beatOfHire_19 : decode cX6_beatOfHire 19 = .ok (.iload_n 2, 1) := by decide +kernel
theorem dX6_beatOfHire_20 : decode cX6_beatOfHire 20 = .ok (.iconst 4, 1) := by decide +kernel
theorem dX6_beatOfHire_21 : decode cX6_beatOfHire 21 = .ok (.irem, 1) := by decide +kernel
theorem dX6_beatOfHire_22 : decode cX6_beatOfHire 22 = .ok (.iload_n 1, 1) := by decide +kernel
theorem dX6_beatOfHire_23 : decode cX6_beatOfHire 23 = .ok (.iconst 0, 1) := by decide +kernel
theorem dX6_beatOfHire_24 : decode cX6_beatOfHire 24 = .ok (.invokevirtual 170, 3) := by decide +kernel
theorem dX6_beatOfHire_27 : decode cX6_beatOfHire 27 = .ok (.pop, 1) := by decide +kernel
theorem dX6_beatOfHire_28 : decode cX6_beatOfHire 28 = .ok (.iconst 0, 1) := by decide +kernel
theorem dX6_beatOfHire_29 : decode cX6_beatOfHire 29 = .ok (.istore 4, 2) := by decide +kernel
theorem dX6_beatOfHire_31 : decode cX6_beatOfHire 31 = .ok (.iload 4, 2) := by decide +kernel
theorem dX6_beatOfHire_33 : decode cX6_beatOfHire 33 = .ok (.iload_n 3, 1) := by decide +kernel
theorem dX6_beatOfHire_34 : decode cX6_beatOfHire 34 = .ok (.if_icmp .ge 31, 3) := by decide +kernel
theorem dX6_beatOfHire_37 : decode cX6_beatOfHire 37 = .ok (.aload_n 0, 1) := by decide +kernel
theorem dX6_beatOfHire_38 : decode cX6_beatOfHire 38 = .ok (.getfield 22, 3) := by decide +kernel
theorem dX6_beatOfHire_41 : decode cX6_beatOfHire 41 = .ok (.iload_n 1, 1) := by decide +kernel
theorem dX6_beatOfHire_42 : decode cX6_beatOfHire 42 = .ok (.invokevirtual 236, 3) := by decide +kernel
theorem dX6_beatOfHire_45 : decode cX6_beatOfHire 45 = .ok (.ifCond .eq 6, 3) := by decide +kernel
theorem dX6_beatOfHire_48 : decode cX6_beatOfHire 48 = .ok (.iload 4, 2) := by decide +kernel
theorem dX6_beatOfHire_50 : decode cX6_beatOfHire 50 = .ok (.ireturn, 1) := by decide +kernel
theorem dX6_beatOfHire_51 : decode cX6_beatOfHire 51 = .ok (.aload_n 0, 1) := by decide +kernel
theorem dX6_beatOfHire_52 : decode cX6_beatOfHire 52 = .ok (.getfield 22, 3) := by decide +kernel
theorem dX6_beatOfHire_55 : decode cX6_beatOfHire 55 = .ok (.invokevirtual 219, 3) := by decide +kernel
theorem dX6_beatOfHire_58 : decode cX6_beatOfHire 58 = .ok (.pop, 1) := by decide +kernel
theorem dX6_beatOfHire_59 : decode cX6_beatOfHire 59 = .ok (.iinc 4 1, 3) := by decide +kernel
theorem dX6_beatOfHire_62 : decode cX6_beatOfHire 62 = .ok (.goto (-31), 3) := by decide +kernel
theorem dX6_beatOfHire_65 : decode cX6_beatOfHire 65 = .ok (.iload_n 3, 1) := by decide +kernel
theorem dX6_beatOfHire_66 : decode cX6_beatOfHire 66 = .ok (.ireturn, 1) := by decide +kernel
theorem dX6_emptyShelvesOfTheGone_0 : decode cX6_emptyShelvesOfTheGone 0 = .ok (.iconst 0, 1) := by decide +kernel
theorem dX6_emptyShelvesOfTheGone_1 : decode cX6_emptyShelvesOfTheGone 1 = .ok (.istore_n 1, 1) := by decide +kernel
theorem dX6_emptyShelvesOfTheGone_2 : decode cX6_emptyShelvesOfTheGone 2 = .ok (.iload_n 1, 1) := by decide +kernel
theorem dX6_emptyShelvesOfTheGone_3 : decode cX6_emptyShelvesOfTheGone 3 = .ok (.aload_n 0, 1) := by decide +kernel
theorem dX6_emptyShelvesOfTheGone_4 : decode cX6_emptyShelvesOfTheGone 4 = .ok (.getfield 11, 3) := by decide +kernel
theorem dX6_emptyShelvesOfTheGone_7 : decode cX6_emptyShelvesOfTheGone 7 = .ok (.arraylength, 1) := by decide +kernel
theorem dX6_emptyShelvesOfTheGone_8 : decode cX6_emptyShelvesOfTheGone 8 = .ok (.if_icmp .ge 46, 3) := by decide +kernel
theorem dX6_emptyShelvesOfTheGone_11 : decode cX6_emptyShelvesOfTheGone 11 = .ok (.aload_n 0, 1) := by decide +kernel
theorem dX6_emptyShelvesOfTheGone_12 : decode cX6_emptyShelvesOfTheGone 12 = .ok (.getfield 11, 3) := by decide +kernel
theorem dX6_emptyShelvesOfTheGone_15 : decode cX6_emptyShelvesOfTheGone 15 = .ok (.iload_n 1, 1) := by decide +kernel
theorem dX6_emptyShelvesOfTheGone_16 : decode cX6_emptyShelvesOfTheGone 16 = .ok (.aaload, 1) := by decide +kernel
theorem dX6_emptyShelvesOfTheGone_17 : decode cX6_emptyShelvesOfTheGone 17 = .ok (.astore_n 2, 1) := by decide +kernel
theorem dX6_emptyShelvesOfTheGone_18 : decode cX6_emptyShelvesOfTheGone 18 = .ok (.aload_n 2, 1) := by decide +kernel
theorem dX6_emptyShelvesOfTheGone_19 : decode cX6_emptyShelvesOfTheGone 19 = .ok (.ifnull 29, 3) := by decide +kernel
theorem dX6_emptyShelvesOfTheGone_22 : decode cX6_emptyShelvesOfTheGone 22 = .ok (.aload_n 2, 1) := by decide +kernel
theorem dX6_emptyShelvesOfTheGone_23 : decode cX6_emptyShelvesOfTheGone 23 = .ok (.invokevirtual 90, 3) := by decide +kernel
theorem dX6_emptyShelvesOfTheGone_26 : decode cX6_emptyShelvesOfTheGone 26 = .ok (.ifCond .eq 22, 3) := by decide +kernel
theorem dX6_emptyShelvesOfTheGone_29 : decode cX6_emptyShelvesOfTheGone 29 = .ok (.aload_n 0, 1) := by decide +kernel
theorem dX6_emptyShelvesOfTheGone_30 : decode cX6_emptyShelvesOfTheGone 30 = .ok (.getfield 18, 3) := by decide +kernel
theorem dX6_emptyShelvesOfTheGone_33 : decode cX6_emptyShelvesOfTheGone 33 = .ok (.aload_n 2, 1) := by decide +kernel
theorem dX6_emptyShelvesOfTheGone_34 : decode cX6_emptyShelvesOfTheGone 34 = .ok (.getfield 93, 3) := by decide +kernel
theorem dX6_emptyShelvesOfTheGone_37 : decode cX6_emptyShelvesOfTheGone 37 = .ok (.invokevirtual 104, 3) := by decide +kernel
theorem dX6_emptyShelvesOfTheGone_40 : decode cX6_emptyShelvesOfTheGone 40 = .ok (.ifCond .ne 8, 3) := by decide +kernel
theorem dX6_emptyShelvesOfTheGone_43 : decode cX6_emptyShelvesOfTheGone 43 = .ok (.aload_n 2, 1) := by decide +kernel
theorem dX6_emptyShelvesOfTheGone_44 : decode cX6_emptyShelvesOfTheGone 44 = .ok (.iconst (-1), 1) := by decide +kernel
theorem dX6_emptyShelvesOfTheGone_45 : decode cX6_emptyShelvesOfTheGone 45 = .ok (.invokevirtual 106, 3) := by decide +kernel
theorem dX6_emptyShelvesOfTheGone_48 : decode cX6_emptyShelvesOfTheGone 48 = .ok (.iinc 1 1, 3) := by decide +kernel
theorem dX6_emptyShelvesOfTheGone_51 : decode cX6_emptyShelvesOfTheGone 51 = .ok (.goto (-49), 3) := by decide +kernel
theorem dX6_emptyShelvesOfTheGone_54 : decode cX6_emptyShelvesOfTheGone 54 = .ok (.return_, 1) := by decide +kernel
theorem dJ6_bitCount_0f7a4_0 : decode cJ6_bitCount_0f7a4 0 = .ok (.iload_n 0, 1) := by decide +kernel
theorem dJ6_bitCount_0f7a4_1 : decode cJ6_bitCount_0f7a4 1 = .ok (.iload_n 0, 1) := by decide +kernel
theorem dJ6_bitCount_0f7a4_2 : decode cJ6_bitCount_0f7a4 2 = .ok (.iconst 1, 1) := by decide +kernel
theorem dJ6_bitCount_0f7a4_3 : decode cJ6_bitCount_0f7a4 3 = .ok (.iushr, 1) := by decide +kernel
theorem dJ6_bitCount_0f7a4_4 : decode cJ6_bitCount_0f7a4 4 = .ok (.ldc_w 265, 3) := by decide +kernel
theorem dJ6_bitCount_0f7a4_7 : decode cJ6_bitCount_0f7a4 7 = .ok (.iand, 1) := by decide +kernel
theorem dJ6_bitCount_0f7a4_8 : decode cJ6_bitCount_0f7a4 8 = .ok (.isub, 1) := by decide +kernel
theorem dJ6_bitCount_0f7a4_9 : decode cJ6_bitCount_0f7a4 9 = .ok (.istore_n 0, 1) := by decide +kernel
theorem dJ6_bitCount_0f7a4_10 : decode cJ6_bitCount_0f7a4 10 = .ok (.iload_n 0, 1) := by decide +kernel
theorem dJ6_bitCount_0f7a4_11 : decode cJ6_bitCount_0f7a4 11 = .ok (.ldc_w 266, 3) := by decide +kernel
theorem dJ6_bitCount_0f7a4_14 : decode cJ6_bitCount_0f7a4 14 = .ok (.iand, 1) := by decide +kernel
theorem dJ6_bitCount_0f7a4_15 : decode cJ6_bitCount_0f7a4 15 = .ok (.iload_n 0, 1) := by decide +kernel
theorem dJ6_bitCount_0f7a4_16 : decode cJ6_bitCount_0f7a4 16 = .ok (.iconst 2, 1) := by decide +kernel
theorem dJ6_bitCount_0f7a4_17 : decode cJ6_bitCount_0f7a4 17 = .ok (.iushr, 1) := by decide +kernel
theorem dJ6_bitCount_0f7a4_18 : decode cJ6_bitCount_0f7a4 18 = .ok (.ldc_w 266, 3) := by decide +kernel
theorem dJ6_bitCount_0f7a4_21 : decode cJ6_bitCount_0f7a4 21 = .ok (.iand, 1) := by decide +kernel
theorem dJ6_bitCount_0f7a4_22 : decode cJ6_bitCount_0f7a4 22 = .ok (.iadd, 1) := by decide +kernel
theorem dJ6_bitCount_0f7a4_23 : decode cJ6_bitCount_0f7a4 23 = .ok (.istore_n 0, 1) := by decide +kernel
theorem dJ6_bitCount_0f7a4_24 : decode cJ6_bitCount_0f7a4 24 = .ok (.iload_n 0, 1) := by decide +kernel
theorem dJ6_bitCount_0f7a4_25 : decode cJ6_bitCount_0f7a4 25 = .ok (.iload_n 0, 1) := by decide +kernel
theorem dJ6_bitCount_0f7a4_26 : decode cJ6_bitCount_0f7a4 26 = .ok (.iconst 4, 1) := by decide +kernel
theorem dJ6_bitCount_0f7a4_27 : decode cJ6_bitCount_0f7a4 27 = .ok (.iushr, 1) := by decide +kernel
theorem dJ6_bitCount_0f7a4_28 : decode cJ6_bitCount_0f7a4 28 = .ok (.iadd, 1) := by decide +kernel
theorem dJ6_bitCount_0f7a4_29 : decode cJ6_bitCount_0f7a4 29 = .ok (.ldc_w 267, 3) := by decide +kernel
theorem dJ6_bitCount_0f7a4_32 : decode cJ6_bitCount_0f7a4 32 = .ok (.iand, 1) := by decide +kernel
theorem dJ6_bitCount_0f7a4_33 : decode cJ6_bitCount_0f7a4 33 = .ok (.istore_n 0, 1) := by decide +kernel
theorem dJ6_bitCount_0f7a4_34 : decode cJ6_bitCount_0f7a4 34 = .ok (.iload_n 0, 1) := by decide +kernel
theorem dJ6_bitCount_0f7a4_35 : decode cJ6_bitCount_0f7a4 35 = .ok (.iload_n 0, 1) := by decide +kernel
theorem dJ6_bitCount_0f7a4_36 : decode cJ6_bitCount_0f7a4 36 = .ok (.bipush 8, 2) := by decide +kernel
theorem dJ6_bitCount_0f7a4_38 : decode cJ6_bitCount_0f7a4 38 = .ok (.iushr, 1) := by decide +kernel
theorem dJ6_bitCount_0f7a4_39 : decode cJ6_bitCount_0f7a4 39 = .ok (.iadd, 1) := by decide +kernel
theorem dJ6_bitCount_0f7a4_40 : decode cJ6_bitCount_0f7a4 40 = .ok (.istore_n 0, 1) := by decide +kernel
theorem dJ6_bitCount_0f7a4_41 : decode cJ6_bitCount_0f7a4 41 = .ok (.iload_n 0, 1) := by decide +kernel
theorem dJ6_bitCount_0f7a4_42 : decode cJ6_bitCount_0f7a4 42 = .ok (.iload_n 0, 1) := by decide +kernel
theorem dJ6_bitCount_0f7a4_43 : decode cJ6_bitCount_0f7a4 43 = .ok (.bipush 16, 2) := by decide +kernel
theorem dJ6_bitCount_0f7a4_45 : decode cJ6_bitCount_0f7a4 45 = .ok (.iushr, 1) := by decide +kernel
theorem dJ6_bitCount_0f7a4_46 : decode cJ6_bitCount_0f7a4 46 = .ok (.iadd, 1) := by decide +kernel
theorem dJ6_bitCount_0f7a4_47 : decode cJ6_bitCount_0f7a4 47 = .ok (.istore_n 0, 1) := by decide +kernel
theorem dJ6_bitCount_0f7a4_48 : decode cJ6_bitCount_0f7a4 48 = .ok (.iload_n 0, 1) := by decide +kernel
theorem dJ6_bitCount_0f7a4_49 : decode cJ6_bitCount_0f7a4 49 = .ok (.bipush 63, 2) := by decide +kernel
theorem dJ6_bitCount_0f7a4_51 : decode cJ6_bitCount_0f7a4 51 = .ok (.iand, 1) := by decide +kernel
theorem dJ6_bitCount_0f7a4_52 : decode cJ6_bitCount_0f7a4 52 = .ok (.ireturn, 1) := by decide +kernel
theorem dJ13_bitCount_95d88_0 : decode cJ13_bitCount_95d88 0 = .ok (.lload_n 0, 1) := by decide +kernel
theorem dJ13_bitCount_95d88_1 : decode cJ13_bitCount_95d88 1 = .ok (.lload_n 0, 1) := by decide +kernel
theorem dJ13_bitCount_95d88_2 : decode cJ13_bitCount_95d88 2 = .ok (.iconst 1, 1) := by decide +kernel
theorem dJ13_bitCount_95d88_3 : decode cJ13_bitCount_95d88 3 = .ok (.lushr, 1) := by decide +kernel
theorem dJ13_bitCount_95d88_4 : decode cJ13_bitCount_95d88 4 = .ok (.ldc2_w 314, 3) := by decide +kernel
theorem dJ13_bitCount_95d88_7 : decode cJ13_bitCount_95d88 7 = .ok (.land, 1) := by decide +kernel
theorem dJ13_bitCount_95d88_8 : decode cJ13_bitCount_95d88 8 = .ok (.lsub, 1) := by decide +kernel
theorem dJ13_bitCount_95d88_9 : decode cJ13_bitCount_95d88 9 = .ok (.lstore_n 0, 1) := by decide +kernel
theorem dJ13_bitCount_95d88_10 : decode cJ13_bitCount_95d88 10 = .ok (.lload_n 0, 1) := by decide +kernel
theorem dJ13_bitCount_95d88_11 : decode cJ13_bitCount_95d88 11 = .ok (.ldc2_w 316, 3) := by decide +kernel
theorem dJ13_bitCount_95d88_14 : decode cJ13_bitCount_95d88 14 = .ok (.land, 1) := by decide +kernel
theorem dJ13_bitCount_95d88_15 : decode cJ13_bitCount_95d88 15 = .ok (.lload_n 0, 1) := by decide +kernel
theorem dJ13_bitCount_95d88_16 : decode cJ13_bitCount_95d88 16 = .ok (.iconst 2, 1) := by decide +kernel
theorem dJ13_bitCount_95d88_17 : decode cJ13_bitCount_95d88 17 = .ok (.lushr, 1) := by decide +kernel
theorem dJ13_bitCount_95d88_18 : decode cJ13_bitCount_95d88 18 = .ok (.ldc2_w 316, 3) := by decide +kernel
theorem dJ13_bitCount_95d88_21 : decode cJ13_bitCount_95d88 21 = .ok (.land, 1) := by decide +kernel
theorem dJ13_bitCount_95d88_22 : decode cJ13_bitCount_95d88 22 = .ok (.ladd, 1) := by decide +kernel
theorem dJ13_bitCount_95d88_23 : decode cJ13_bitCount_95d88 23 = .ok (.lstore_n 0, 1) := by decide +kernel
theorem dJ13_bitCount_95d88_24 : decode cJ13_bitCount_95d88 24 = .ok (.lload_n 0, 1) := by decide +kernel
theorem dJ13_bitCount_95d88_25 : decode cJ13_bitCount_95d88 25 = .ok (.lload_n 0, 1) := by decide +kernel
theorem dJ13_bitCount_95d88_26 : decode cJ13_bitCount_95d88 26 = .ok (.iconst 4, 1) := by decide +kernel
theorem dJ13_bitCount_95d88_27 : decode cJ13_bitCount_95d88 27 = .ok (.lushr, 1) := by decide +kernel
theorem dJ13_bitCount_95d88_28 : decode cJ13_bitCount_95d88 28 = .ok (.ladd, 1) := by decide +kernel
theorem dJ13_bitCount_95d88_29 : decode cJ13_bitCount_95d88 29 = .ok (.ldc2_w 318, 3) := by decide +kernel
theorem dJ13_bitCount_95d88_32 : decode cJ13_bitCount_95d88 32 = .ok (.land, 1) := by decide +kernel
theorem dJ13_bitCount_95d88_33 : decode cJ13_bitCount_95d88 33 = .ok (.lstore_n 0, 1) := by decide +kernel
theorem dJ13_bitCount_95d88_34 : decode cJ13_bitCount_95d88 34 = .ok (.lload_n 0, 1) := by decide +kernel
theorem dJ13_bitCount_95d88_35 : decode cJ13_bitCount_95d88 35 = .ok (.lload_n 0, 1) := by decide +kernel
theorem dJ13_bitCount_95d88_36 : decode cJ13_bitCount_95d88 36 = .ok (.bipush 8, 2) := by decide +kernel
theorem dJ13_bitCount_95d88_38 : decode cJ13_bitCount_95d88 38 = .ok (.lushr, 1) := by decide +kernel
theorem dJ13_bitCount_95d88_39 : decode cJ13_bitCount_95d88 39 = .ok (.ladd, 1) := by decide +kernel
theorem dJ13_bitCount_95d88_40 : decode cJ13_bitCount_95d88 40 = .ok (.lstore_n 0, 1) := by decide +kernel
theorem dJ13_bitCount_95d88_41 : decode cJ13_bitCount_95d88 41 = .ok (.lload_n 0, 1) := by decide +kernel
theorem dJ13_bitCount_95d88_42 : decode cJ13_bitCount_95d88 42 = .ok (.lload_n 0, 1) := by decide +kernel
theorem dJ13_bitCount_95d88_43 : decode cJ13_bitCount_95d88 43 = .ok (.bipush 16, 2) := by decide +kernel
theorem dJ13_bitCount_95d88_45 : decode cJ13_bitCount_95d88 45 = .ok (.lushr, 1) := by decide +kernel
theorem dJ13_bitCount_95d88_46 : decode cJ13_bitCount_95d88 46 = .ok (.ladd, 1) := by decide +kernel
theorem dJ13_bitCount_95d88_47 : decode cJ13_bitCount_95d88 47 = .ok (.lstore_n 0, 1) := by decide +kernel
theorem dJ13_bitCount_95d88_48 : decode cJ13_bitCount_95d88 48 = .ok (.lload_n 0, 1) := by decide +kernel
theorem dJ13_bitCount_95d88_49 : decode cJ13_bitCount_95d88 49 = .ok (.lload_n 0, 1) := by decide +kernel
theorem dJ13_bitCount_95d88_50 : decode cJ13_bitCount_95d88 50 = .ok (.bipush 32, 2) := by decide +kernel
theorem dJ13_bitCount_95d88_52 : decode cJ13_bitCount_95d88 52 = .ok (.lushr, 1) := by decide +kernel
theorem dJ13_bitCount_95d88_53 : decode cJ13_bitCount_95d88 53 = .ok (.ladd, 1) := by decide +kernel
theorem dJ13_bitCount_95d88_54 : decode cJ13_bitCount_95d88 54 = .ok (.lstore_n 0, 1) := by decide +kernel
theorem dJ13_bitCount_95d88_55 : decode cJ13_bitCount_95d88 55 = .ok (.lload_n 0, 1) := by decide +kernel
theorem dJ13_bitCount_95d88_56 : decode cJ13_bitCount_95d88 56 = .ok (.l2i, 1) := by decide +kernel
theorem dJ13_bitCount_95d88_57 : decode cJ13_bitCount_95d88 57 = .ok (.bipush 127, 2) := by decide +kernel
theorem dJ13_bitCount_95d88_59 : decode cJ13_bitCount_95d88 59 = .ok (.iand, 1) := by decide +kernel
theorem dJ13_bitCount_95d88_60 : decode cJ13_bitCount_95d88 60 = .ok (.ireturn, 1) := by decide +kernel
theorem dJ9_abs_0f7a4_0 : decode cJ9_abs_0f7a4 0 = .ok (.iload_n 0, 1) := by decide +kernel
theorem dJ9_abs_0f7a4_1 : decode cJ9_abs_0f7a4 1 = .ok (.ifCond .ge 8, 3) := by decide +kernel
theorem dJ9_abs_0f7a4_4 : decode cJ9_abs_0f7a4 4 = .ok (.iload_n 0, 1) := by decide +kernel
theorem dJ9_abs_0f7a4_5 : decode cJ9_abs_0f7a4 5 = .ok (.ineg, 1) := by decide +kernel
theorem dJ9_abs_0f7a4_6 : decode cJ9_abs_0f7a4 6 = .ok (.goto 4, 3) := by decide +kernel
theorem dJ9_abs_0f7a4_9 : decode cJ9_abs_0f7a4 9 = .ok (.iload_n 0, 1) := by decide +kernel
theorem dJ9_abs_0f7a4_10 : decode cJ9_abs_0f7a4 10 = .ok (.ireturn, 1) := by decide +kernel
theorem dJ9_max_7cf53_0 : decode cJ9_max_7cf53 0 = .ok (.iload_n 0, 1) := by decide +kernel
theorem dJ9_max_7cf53_1 : decode cJ9_max_7cf53 1 = .ok (.iload_n 1, 1) := by decide +kernel
theorem dJ9_max_7cf53_2 : decode cJ9_max_7cf53 2 = .ok (.if_icmp .lt 7, 3) := by decide +kernel
theorem dJ9_max_7cf53_5 : decode cJ9_max_7cf53 5 = .ok (.iload_n 0, 1) := by decide +kernel
theorem dJ9_max_7cf53_6 : decode cJ9_max_7cf53 6 = .ok (.goto 4, 3) := by decide +kernel
theorem dJ9_max_7cf53_9 : decode cJ9_max_7cf53 9 = .ok (.iload_n 1, 1) := by decide +kernel
theorem dJ9_max_7cf53_10 : decode cJ9_max_7cf53 10 = .ok (.ireturn, 1) := by decide +kernel
theorem dJ0_length_8abf5_0 : decode cJ0_length_8abf5 0 = .ok (.aload_n 0, 1) := by decide +kernel
theorem dJ0_length_8abf5_1 : decode cJ0_length_8abf5 1 = .ok (.getfield 9, 3) := by decide +kernel
theorem dJ0_length_8abf5_4 : decode cJ0_length_8abf5 4 = .ok (.arraylength, 1) := by decide +kernel
theorem dJ0_length_8abf5_5 : decode cJ0_length_8abf5 5 = .ok (.aload_n 0, 1) := by decide +kernel
theorem dJ0_length_8abf5_6 : decode cJ0_length_8abf5 6 = .ok (.invokevirtual 335, 3) := by decide +kernel
theorem dJ0_length_8abf5_9 : decode cJ0_length_8abf5 9 = .ok (.ishr, 1) := by decide +kernel
theorem dJ0_length_8abf5_10 : decode cJ0_length_8abf5 10 = .ok (.ireturn, 1) := by decide +kernel
theorem dJ0_charAt_5068e_0 : decode cJ0_charAt_5068e 0 = .ok (.aload_n 0, 1) := by decide +kernel
theorem dJ0_charAt_5068e_1 : decode cJ0_charAt_5068e 1 = .ok (.invokevirtual 492, 3) := by decide +kernel
theorem dJ0_charAt_5068e_4 : decode cJ0_charAt_5068e 4 = .ok (.ifCond .eq 12, 3) := by decide +kernel
theorem dJ0_charAt_5068e_7 : decode cJ0_charAt_5068e 7 = .ok (.aload_n 0, 1) := by decide +kernel
theorem dJ0_charAt_5068e_8 : decode cJ0_charAt_5068e 8 = .ok (.getfield 9, 3) := by decide +kernel
theorem dJ0_charAt_5068e_11 : decode cJ0_charAt_5068e 11 = .ok (.iload_n 1, 1) := by decide +kernel
theorem dJ0_charAt_5068e_12 : decode cJ0_charAt_5068e 12 = .ok (.invokestatic 495, 3) := by decide +kernel
theorem dJ0_charAt_5068e_15 : decode cJ0_charAt_5068e 15 = .ok (.ireturn, 1) := by decide +kernel
theorem dJ0_charAt_5068e_16 : decode cJ0_charAt_5068e 16 = .ok (.aload_n 0, 1) := by decide +kernel
theorem dJ0_charAt_5068e_17 : decode cJ0_charAt_5068e 17 = .ok (.getfield 9, 3) := by decide +kernel
theorem dJ0_charAt_5068e_20 : decode cJ0_charAt_5068e 20 = .ok (.iload_n 1, 1) := by decide +kernel
theorem dJ0_charAt_5068e_21 : decode cJ0_charAt_5068e 21 = .ok (.invokestatic 498, 3) := by decide +kernel
theorem dJ0_charAt_5068e_24 : decode cJ0_charAt_5068e 24 = .ok (.ireturn, 1) := by decide +kernel
theorem dJ0_coder_7d493_0 : decode cJ0_coder_7d493 0 = .ok (.getstatic 38, 3) := by decide +kernel
theorem dJ0_coder_7d493_3 : decode cJ0_coder_7d493 3 = .ok (.ifCond .eq 10, 3) := by decide +kernel
theorem dJ0_coder_7d493_6 : decode cJ0_coder_7d493 6 = .ok (.aload_n 0, 1) := by decide +kernel
theorem dJ0_coder_7d493_7 : decode cJ0_coder_7d493 7 = .ok (.getfield 15, 3) := by decide +kernel
theorem dJ0_coder_7d493_10 : decode cJ0_coder_7d493 10 = .ok (.goto 4, 3) := by decide +kernel
theorem dJ0_coder_7d493_13 : decode cJ0_coder_7d493 13 = .ok (.iconst 1, 1) := by decide +kernel
theorem dJ0_coder_7d493_14 : decode cJ0_coder_7d493 14 = .ok (.ireturn, 1) := by decide +kernel
theorem dJ0_isLatin1_aae02_0 : decode cJ0_isLatin1_aae02 0 = .ok (.getstatic 38, 3) := by decide +kernel
theorem dJ0_isLatin1_aae02_3 : decode cJ0_isLatin1_aae02 3 = .ok (.ifCond .eq 14, 3) := by decide +kernel
theorem dJ0_isLatin1_aae02_6 : decode cJ0_isLatin1_aae02 6 = .ok (.aload_n 0, 1) := by decide +kernel
theorem dJ0_isLatin1_aae02_7 : decode cJ0_isLatin1_aae02 7 = .ok (.getfield 15, 3) := by decide +kernel
theorem dJ0_isLatin1_aae02_10 : decode cJ0_isLatin1_aae02 10 = .ok (.ifCond .ne 7, 3) := by decide +kernel
theorem dJ0_isLatin1_aae02_13 : decode cJ0_isLatin1_aae02 13 = .ok (.iconst 1, 1) := by decide +kernel
theorem dJ0_isLatin1_aae02_14 : decode cJ0_isLatin1_aae02 14 = .ok (.goto 4, 3) := by decide +kernel
theorem dJ0_isLatin1_aae02_17 : decode cJ0_isLatin1_aae02 17 = .ok (.iconst 0, 1) := by decide +kernel
theorem dJ0_isLatin1_aae02_18 : decode cJ0_isLatin1_aae02 18 = .ok (.ireturn, 1) := by decide +kernel
theorem dJ0_checkIndex_df160_0 : decode cJ0_checkIndex_df160 0 = .ok (.iload_n 0, 1) := by decide +kernel
theorem dJ0_checkIndex_df160_1 : decode cJ0_checkIndex_df160 1 = .ok (.iload_n 1, 1) := by decide +kernel
theorem dJ0_checkIndex_df160_2 : decode cJ0_checkIndex_df160 2 = .ok (.getstatic 1053, 3) := by decide +kernel
theorem dJ0_checkIndex_df160_5 : decode cJ0_checkIndex_df160 5 = .ok (.invokestatic 1059, 3) := by decide +kernel
theorem dJ0_checkIndex_df160_8 : decode cJ0_checkIndex_df160 8 = .ok (.pop, 1) := by decide +kernel
theorem dJ0_checkIndex_df160_9 : decode cJ0_checkIndex_df160 9 = .ok (.return_, 1) := by decide +kernel
theorem dJ1_charAt_3b067_0 : decode cJ1_charAt_3b067 0 = .ok (.iload_n 1, 1) := by decide +kernel
theorem dJ1_charAt_3b067_1 : decode cJ1_charAt_3b067 1 = .ok (.aload_n 0, 1) := by decide +kernel
theorem dJ1_charAt_3b067_2 : decode cJ1_charAt_3b067 2 = .ok (.arraylength, 1) := by decide +kernel
theorem dJ1_charAt_3b067_3 : decode cJ1_charAt_3b067 3 = .ok (.invokestatic 9, 3) := by decide +kernel
theorem dJ1_charAt_3b067_6 : decode cJ1_charAt_3b067 6 = .ok (.aload_n 0, 1) := by decide +kernel
theorem dJ1_charAt_3b067_7 : decode cJ1_charAt_3b067 7 = .ok (.iload_n 1, 1) := by decide +kernel
theorem dJ1_charAt_3b067_8 : decode cJ1_charAt_3b067 8 = .ok (.baload, 1) := by decide +kernel
theorem dJ1_charAt_3b067_9 : decode cJ1_charAt_3b067 9 = .ok (.sipush 255, 3) := by decide +kernel
theorem dJ1_charAt_3b067_12 : decode cJ1_charAt_3b067 12 = .ok (.iand, 1) := by decide +kernel
theorem dJ1_charAt_3b067_13 : decode cJ1_charAt_3b067 13 = .ok (.i2c, 1) := by decide +kernel
theorem dJ1_charAt_3b067_14 : decode cJ1_charAt_3b067 14 = .ok (.ireturn, 1) := by decide +kernel
theorem dJ2_getChar_3b067_0 : decode cJ2_getChar_3b067 0 = .ok (.getstatic 44, 3) := by decide +kernel
theorem dJ2_getChar_3b067_3 : decode cJ2_getChar_3b067 3 = .ok (.ifCond .ne 25, 3) := by decide +kernel
theorem dJ2_getChar_3b067_6 : decode cJ2_getChar_3b067 6 = .ok (.iload_n 1, 1) := by decide +kernel
theorem dJ2_getChar_3b067_7 : decode cJ2_getChar_3b067 7 = .ok (.ifCond .lt 11, 3) := by decide +kernel
theorem dJ2_getChar_3b067_10 : decode cJ2_getChar_3b067 10 = .ok (.iload_n 1, 1) := by decide +kernel
theorem dJ2_getChar_3b067_11 : decode cJ2_getChar_3b067 11 = .ok (.aload_n 0, 1) := by decide +kernel
theorem dJ2_getChar_3b067_12 : decode cJ2_getChar_3b067 12 = .ok (.invokestatic 48, 3) := by decide +kernel
theorem dJ2_getChar_3b067_15 : decode cJ2_getChar_3b067 15 = .ok (.if_icmp .lt 13, 3) := by decide +kernel
theorem dJ2_getChar_3b067_18 : decode cJ2_getChar_3b067 18 = .ok (.new 52, 3) := by decide +kernel
theorem dJ2_getChar_3b067_21 : decode cJ2_getChar_3b067 21 = .ok (.dup, 1) := by decide +kernel
theorem dJ2_getChar_3b067_22 : decode cJ2_getChar_3b067 22 = .ok (.ldc 54, 2) := by decide +kernel
theorem dJ2_getChar_3b067_24 : decode cJ2_getChar_3b067 24 = .ok (.invokespecial 56, 3) := by decide +kernel
theorem dJ2_getChar_3b067_27 : decode cJ2_getChar_3b067 27 = .ok (.athrow, 1) := by decide +kernel
theorem dJ2_getChar_3b067_28 : decode cJ2_getChar_3b067 28 = .ok (.iload_n 1, 1) := by decide +kernel
theorem dJ2_getChar_3b067_29 : decode cJ2_getChar_3b067 29 = .ok (.iconst 1, 1) := by decide +kernel
theorem dJ2_getChar_3b067_30 : decode cJ2_getChar_3b067 30 = .ok (.ishl, 1) := by decide +kernel
theorem dJ2_getChar_3b067_31 : decode cJ2_getChar_3b067 31 = .ok (.istore_n 1, 1) := by decide +kernel
theorem dJ2_getChar_3b067_32 : decode cJ2_getChar_3b067 32 = .ok (.aload_n 0, 1) := by decide +kernel
theorem dJ2_getChar_3b067_33 : decode cJ2_getChar_3b067 33 = .ok (.iload_n 1, 1) := by decide +kernel
theorem dJ2_getChar_3b067_34 : decode cJ2_getChar_3b067 34 = .ok (.iinc 1 1, 3) := by decide +kernel
theorem dJ2_getChar_3b067_37 : decode cJ2_getChar_3b067 37 = .ok (.baload, 1) := by decide +kernel
theorem dJ2_getChar_3b067_38 : decode cJ2_getChar_3b067 38 = .ok (.sipush 255, 3) := by decide +kernel
theorem dJ2_getChar_3b067_41 : decode cJ2_getChar_3b067 41 = .ok (.iand, 1) := by decide +kernel
theorem dJ2_getChar_3b067_42 : decode cJ2_getChar_3b067 42 = .ok (.getstatic 59, 3) := by decide +kernel
theorem dJ2_getChar_3b067_45 : decode cJ2_getChar_3b067 45 = .ok (.ishl, 1) := by decide +kernel
theorem dJ2_getChar_3b067_46 : decode cJ2_getChar_3b067 46 = .ok (.aload_n 0, 1) := by decide +kernel
theorem dJ2_getChar_3b067_47 : decode cJ2_getChar_3b067 47 = .ok (.iload_n 1, 1) := by decide +kernel
theorem dJ2_getChar_3b067_48 : decode cJ2_getChar_3b067 48 = .ok (.baload, 1) := by decide +kernel
theorem dJ2_getChar_3b067_49 : decode cJ2_getChar_3b067 49 = .ok (.sipush 255, 3) := by decide +kernel
theorem dJ2_getChar_3b067_52 : decode cJ2_getChar_3b067 52 = .ok (.iand, 1) := by decide +kernel
theorem dJ2_getChar_3b067_53 : decode cJ2_getChar_3b067 53 = .ok (.getstatic 63, 3) := by decide +kernel
theorem dJ2_getChar_3b067_56 : decode cJ2_getChar_3b067 56 = .ok (.ishl, 1) := by decide +kernel
theorem dJ2_getChar_3b067_57 : decode cJ2_getChar_3b067 57 = .ok (.ior, 1) := by decide +kernel
theorem dJ2_getChar_3b067_58 : decode cJ2_getChar_3b067 58 = .ok (.i2c, 1) := by decide +kernel
theorem dJ2_getChar_3b067_59 : decode cJ2_getChar_3b067 59 = .ok (.ireturn, 1) := by decide +kernel
theorem dJ2_length_9d52b_0 : decode cJ2_length_9d52b 0 = .ok (.aload_n 0, 1) := by decide +kernel
theorem dJ2_length_9d52b_1 : decode cJ2_length_9d52b 1 = .ok (.arraylength, 1) := by decide +kernel
theorem dJ2_length_9d52b_2 : decode cJ2_length_9d52b 2 = .ok (.iconst 1, 1) := by decide +kernel
theorem dJ2_length_9d52b_3 : decode cJ2_length_9d52b 3 = .ok (.ishr, 1) := by decide +kernel
theorem dJ2_length_9d52b_4 : decode cJ2_length_9d52b 4 = .ok (.ireturn, 1) := by decide +kernel
theorem dJ2_charAt_3b067_0 : decode cJ2_charAt_3b067 0 = .ok (.iload_n 1, 1) := by decide +kernel
theorem dJ2_charAt_3b067_1 : decode cJ2_charAt_3b067 1 = .ok (.aload_n 0, 1) := by decide +kernel
theorem dJ2_charAt_3b067_2 : decode cJ2_charAt_3b067 2 = .ok (.invokestatic 67, 3) := by decide +kernel
theorem dJ2_charAt_3b067_5 : decode cJ2_charAt_3b067 5 = .ok (.aload_n 0, 1) := by decide +kernel
theorem dJ2_charAt_3b067_6 : decode cJ2_charAt_3b067 6 = .ok (.iload_n 1, 1) := by decide +kernel
theorem dJ2_charAt_3b067_7 : decode cJ2_charAt_3b067 7 = .ok (.invokestatic 71, 3) := by decide +kernel
theorem dJ2_charAt_3b067_10 : decode cJ2_charAt_3b067 10 = .ok (.ireturn, 1) := by decide +kernel
theorem dJ2_checkIndex_2214a_0 : decode cJ2_checkIndex_2214a 0 = .ok (.iload_n 0, 1) := by decide +kernel
theorem dJ2_checkIndex_2214a_1 : decode cJ2_checkIndex_2214a 1 = .ok (.aload_n 1, 1) := by decide +kernel
theorem dJ2_checkIndex_2214a_2 : decode cJ2_checkIndex_2214a 2 = .ok (.invokestatic 48, 3) := by decide +kernel
theorem dJ2_checkIndex_2214a_5 : decode cJ2_checkIndex_2214a 5 = .ok (.invokestatic 414, 3) := by decide +kernel
theorem dJ2_checkIndex_2214a_8 : decode cJ2_checkIndex_2214a 8 = .ok (.return_, 1) := by decide +kernel
theorem dJ3_checkIndex_8e157_0 : decode cJ3_checkIndex_8e157 0 = .ok (.iload_n 0, 1) := by decide +kernel
theorem dJ3_checkIndex_8e157_1 : decode cJ3_checkIndex_8e157 1 = .ok (.ifCond .lt 8, 3) := by decide +kernel
theorem dJ3_checkIndex_8e157_4 : decode cJ3_checkIndex_8e157 4 = .ok (.iload_n 0, 1) := by decide +kernel
theorem dJ3_checkIndex_8e157_5 : decode cJ3_checkIndex_8e157 5 = .ok (.iload_n 1, 1) := by decide +kernel
theorem dJ3_checkIndex_8e157_6 : decode cJ3_checkIndex_8e157 6 = .ok (.if_icmp .lt 10, 3) := by decide +kernel
theorem dJ3_checkIndex_8e157_9 : decode cJ3_checkIndex_8e157 9 = .ok (.aload_n 2, 1) := by decide +kernel
theorem dJ3_checkIndex_8e157_10 : decode cJ3_checkIndex_8e157 10 = .ok (.iload_n 0, 1) := by decide +kernel
theorem dJ3_checkIndex_8e157_11 : decode cJ3_checkIndex_8e157 11 = .ok (.iload_n 1, 1) := by decide +kernel
theorem dJ3_checkIndex_8e157_12 : decode cJ3_checkIndex_8e157 12 = .ok (.invokestatic 95, 3) := by decide +kernel
theorem dJ3_checkIndex_8e157_15 : decode cJ3_checkIndex_8e157 15 = .ok (.athrow, 1) := by decide +kernel
theorem dJ3_checkIndex_8e157_16 : decode cJ3_checkIndex_8e157 16 = .ok (.iload_n 0, 1) := by decide +kernel
theorem dJ3_checkIndex_8e157_17 : decode cJ3_checkIndex_8e157 17 = .ok (.ireturn, 1) := by decide +kernel
