theorem dX0_init_0 : decode cX0_init 0 = .ok (.aload_n 0, 1) := by decide +kernel
theorem dX0_init_1 : decode cX0_init 1 = .ok (.invokespecial 3, 3) := by decide +kernel
theorem dX0_init_4 : decode cX0_init 4 = .ok (.aload_n 0, 1) := by decide +kernel
theorem dX0_init_5 : decode cX0_init 5 = .ok (.bipush 50, 2) := by decide +kernel
theorem dX0_init_7 : decode cX0_init 7 = .ok (.newarray .int, 2) := by decide +kernel
theorem dX0_init_9 : decode cX0_init 9 = .ok (.putfield 11, 3) := by decide +kernel
theorem dX0_init_12 : decode cX0_init 12 = .ok (.aload_n 0, 1) := by decide +kernel
theorem dX0_init_13 : decode cX0_init 13 = .ok (.iconst 0, 1) := by decide +kernel
theorem dX0_init_14 : decode cX0_init 14 = .ok (.putfield 15, 3) := by decide +kernel
theorem dX0_init_17 : decode cX0_init 17 = .ok (.aload_n 0, 1) := by decide +kernel
theorem dX0_init_18 : decode cX0_init 18 = .ok (.bipush 24, 2) := by decide +kernel
theorem dX0_init_20 : decode cX0_init 20 = .ok (.newarray .int, 2) := by decide +kernel
theorem dX0_init_22 : decode cX0_init 22 = .ok (.putfield 19, 3) := by decide +kernel
theorem dX0_init_25 : decode cX0_init 25 = .ok (.aload_n 0, 1) := by decide +kernel
theorem dX0_init_26 : decode cX0_init 26 = .ok (.iconst 0, 1) := by decide +kernel
theorem dX0_init_27 : decode cX0_init 27 = .ok (.putfield 22, 3) := by decide +kernel
theorem dX0_init_30 : decode cX0_init 30 = .ok (.aload_n 0, 1) := by decide +kernel
theorem dX0_init_31 : decode cX0_init 31 = .ok (.iconst 0, 1) := by decide +kernel
theorem dX0_init_32 : decode cX0_init 32 = .ok (.putfield 25, 3) := by decide +kernel
theorem dX0_init_35 : decode cX0_init 35 = .ok (.return_, 1) := by decide +kernel
theorem dX0_isKind_0 : decode cX0_isKind 0 = .ok (.iload_n 0, 1) := by decide +kernel
theorem dX0_isKind_1 : decode cX0_isKind 1 = .ok (.ifCond .lt 13, 3) := by decide +kernel
theorem dX0_isKind_4 : decode cX0_isKind 4 = .ok (.iload_n 0, 1) := by decide +kernel
theorem dX0_isKind_5 : decode cX0_isKind 5 = .ok (.bipush 7, 2) := by decide +kernel
theorem dX0_isKind_7 : decode cX0_isKind 7 = .ok (.if_icmp .gt 7, 3) := by decide +kernel
theorem dX0_isKind_10 : decode cX0_isKind 10 = .ok (.iconst 1, 1) := by decide +kernel
theorem dX0_isKind_11 : decode cX0_isKind 11 = .ok (.goto 4, 3) := by decide +kernel
theorem dX0_isKind_14 : decode cX0_isKind 14 = .ok (.iconst 0, 1) := by decide +kernel
theorem dX0_isKind_15 : decode cX0_isKind 15 = .ok (.ireturn, 1) := by decide +kernel
theorem dX0_isUnder_0 : decode cX0_isUnder 0 = .ok (.iload_n 0, 1) := by decide +kernel
theorem dX0_isUnder_1 : decode cX0_isUnder 1 = .ok (.istore_n 2, 1) := by decide +kernel
theorem dX0_isUnder_2 : decode cX0_isUnder 2 = .ok (.iconst 0, 1) := by decide +kernel
theorem dX0_isUnder_3 : decode cX0_isUnder 3 = .ok (.istore_n 3, 1) := by decide +kernel
theorem dX0_isUnder_4 : decode cX0_isUnder 4 = .ok (.iload_n 3, 1) := by decide +kernel
theorem dX0_isUnder_5 : decode cX0_isUnder 5 = .ok (.getstatic 28, 3) := by decide +kernel
theorem dX0_isUnder_8 : decode cX0_isUnder 8 = .ok (.arraylength, 1) := by decide +kernel
theorem dX0_isUnder_9 : decode cX0_isUnder 9 = .ok (.if_icmp .ge 29, 3) := by decide +kernel
theorem dX0_isUnder_12 : decode cX0_isUnder 12 = .ok (.iload_n 2, 1) := by decide +kernel
theorem dX0_isUnder_13 : decode cX0_isUnder 13 = .ok (.invokestatic 31, 3) := by decide +kernel
theorem dX0_isUnder_16 : decode cX0_isUnder 16 = .ok (.ifCond .eq 22, 3) := by decide +kernel
theorem dX0_isUnder_19 : decode cX0_isUnder 19 = .ok (.iload_n 2, 1) := by decide +kernel
theorem dX0_isUnder_20 : decode cX0_isUnder 20 = .ok (.iload_n 1, 1) := by decide +kernel
theorem dX0_isUnder_21 : decode cX0_isUnder 21 = .ok (.if_icmp .ne 5, 3) := by decide +kernel
theorem dX0_isUnder_24 : decode cX0_isUnder 24 = .ok (.iconst 1, 1) := by decide +kernel
theorem dX0_isUnder_25 : decode cX0_isUnder 25 = .ok (.ireturn, 1) := by decide +kernel
theorem dX0_isUnder_26 : decode cX0_isUnder 26 = .ok (.getstatic 28, 3) := by decide +kernel
theorem dX0_isUnder_29 : decode cX0_isUnder 29 = .ok (.iload_n 2, 1) := by decide +kernel
theorem dX0_isUnder_30 : decode cX0_isUnder 30 = .ok (.iaload, 1) := by decide +kernel
theorem dX0_isUnder_31 : decode cX0_isUnder 31 = .ok (.istore_n 2, 1) := by decide +kernel
theorem dX0_isUnder_32 : decode cX0_isUnder 32 = .ok (.iinc 3 1, 3) := by decide +kernel
theorem dX0_isUnder_35 : decode cX0_isUnder 35 = .ok (.goto (-31), 3) := by decide +kernel
theorem dX0_isUnder_38 : decode cX0_isUnder 38 = .ok (.iconst 0, 1) := by decide +kernel
theorem dX0_isUnder_39 : decode cX0_isUnder 39 = .ok (.ireturn, 1) := by decide +kernel
theorem dX0_has_0 : decode cX0_has 0 = .ok (.iload_n 1, 1) := by decide +kernel
theorem dX0_has_1 : decode cX0_has 1 = .ok (.ifCond .lt 15, 3) := by decide +kernel
theorem dX0_has_4 : decode cX0_has 4 = .ok (.iload_n 1, 1) := by decide +kernel
theorem dX0_has_5 : decode cX0_has 5 = .ok (.aload_n 0, 1) := by decide +kernel
theorem dX0_has_6 : decode cX0_has 6 = .ok (.getfield 15, 3) := by decide +kernel
theorem dX0_has_9 : decode cX0_has 9 = .ok (.if_icmp .ge 7, 3) := by decide +kernel
theorem dX0_has_12 : decode cX0_has 12 = .ok (.iconst 1, 1) := by decide +kernel
theorem dX0_has_13 : decode cX0_has 13 = .ok (.goto 4, 3) := by decide +kernel
theorem dX0_has_16 : decode cX0_has 16 = .ok (.iconst 0, 1) := by decide +kernel
theorem dX0_has_17 : decode cX0_has 17 = .ok (.ireturn, 1) := by decide +kernel
theorem dX0_kindOf_0 : decode cX0_kindOf 0 = .ok (.aload_n 0, 1) := by decide +kernel
theorem dX0_kindOf_1 : decode cX0_kindOf 1 = .ok (.iload_n 1, 1) := by decide +kernel
theorem dX0_kindOf_2 : decode cX0_kindOf 2 = .ok (.invokevirtual 35, 3) := by decide +kernel
theorem dX0_kindOf_5 : decode cX0_kindOf 5 = .ok (.ifCond .eq 12, 3) := by decide +kernel
theorem dX0_kindOf_8 : decode cX0_kindOf 8 = .ok (.aload_n 0, 1) := by decide +kernel
theorem dX0_kindOf_9 : decode cX0_kindOf 9 = .ok (.getfield 11, 3) := by decide +kernel
theorem dX0_kindOf_12 : decode cX0_kindOf 12 = .ok (.iload_n 1, 1) := by decide +kernel
theorem dX0_kindOf_13 : decode cX0_kindOf 13 = .ok (.iaload, 1) := by decide +kernel
theorem dX0_kindOf_14 : decode cX0_kindOf 14 = .ok (.goto 4, 3) := by decide +kernel
theorem dX0_kindOf_17 : decode cX0_kindOf 17 = .ok (.iconst (-1), 1) := by decide +kernel
theorem dX0_kindOf_18 : decode cX0_kindOf 18 = .ok (.ireturn, 1) := by decide +kernel
theorem dX0_make_0 : decode cX0_make 0 = .ok (.aload_n 0, 1) := by decide +kernel
theorem dX0_make_1 : decode cX0_make 1 = .ok (.getfield 15, 3) := by decide +kernel
theorem dX0_make_4 : decode cX0_make 4 = .ok (.bipush 50, 2) := by decide +kernel
theorem dX0_make_6 : decode cX0_make 6 = .ok (.if_icmp .lt 6, 3) := by decide +kernel
theorem dX0_make_9 : decode cX0_make 9 = .ok (.bipush (-3), 2) := by decide +kernel
theorem dX0_make_11 : decode cX0_make 11 = .ok (.ireturn, 1) := by decide +kernel
theorem dX0_make_12 : decode cX0_make 12 = .ok (.aload_n 0, 1) := by decide +kernel
theorem dX0_make_13 : decode cX0_make 13 = .ok (.getfield 11, 3) := by decide +kernel
theorem dX0_make_16 : decode cX0_make 16 = .ok (.aload_n 0, 1) := by decide +kernel
theorem dX0_make_17 : decode cX0_make 17 = .ok (.getfield 15, 3) := by decide +kernel
theorem dX0_make_20 : decode cX0_make 20 = .ok (.iload_n 1, 1) := by decide +kernel
theorem dX0_make_21 : decode cX0_make 21 = .ok (.iastore, 1) := by decide +kernel
theorem dX0_make_22 : decode cX0_make 22 = .ok (.aload_n 0, 1) := by decide +kernel
theorem dX0_make_23 : decode cX0_make 23 = .ok (.dup, 1) := by decide +kernel
theorem dX0_make_24 : decode cX0_make 24 = .ok (.getfield 15, 3) := by decide +kernel
theorem dX0_make_27 : decode cX0_make 27 = .ok (.iconst 1, 1) := by decide +kernel
theorem dX0_make_28 : decode cX0_make 28 = .ok (.iadd, 1) := by decide +kernel
theorem dX0_make_29 : decode cX0_make 29 = .ok (.putfield 15, 3) := by decide +kernel
theorem dX0_make_32 : decode cX0_make 32 = .ok (.aload_n 0, 1) := by decide +kernel
theorem dX0_make_33 : decode cX0_make 33 = .ok (.getfield 15, 3) := by decide +kernel
theorem dX0_make_36 : decode cX0_make 36 = .ok (.iconst 1, 1) := by decide +kernel
theorem dX0_make_37 : decode cX0_make 37 = .ok (.isub, 1) := by decide +kernel
theorem dX0_make_38 : decode cX0_make 38 = .ok (.ireturn, 1) := by decide +kernel
theorem dX0_kept_0 : decode cX0_kept 0 = .ok (.aload_n 0, 1) := by decide +kernel
theorem dX0_kept_1 : decode cX0_kept 1 = .ok (.getfield 22, 3) := by decide +kernel
theorem dX0_kept_4 : decode cX0_kept 4 = .ok (.bipush 24, 2) := by decide +kernel
theorem dX0_kept_6 : decode cX0_kept 6 = .ok (.invokestatic 38, 3) := by decide +kernel
theorem dX0_kept_9 : decode cX0_kept 9 = .ok (.ireturn, 1) := by decide +kernel
theorem dX0_perform_0 : decode cX0_perform 0 = .ok (.aload_n 0, 1) := by decide +kernel
theorem dX0_perform_1 : decode cX0_perform 1 = .ok (.iconst 0, 1) := by decide +kernel
theorem dX0_perform_2 : decode cX0_perform 2 = .ok (.putfield 22, 3) := by decide +kernel
theorem dX0_perform_5 : decode cX0_perform 5 = .ok (.aload_n 0, 1) := by decide +kernel
theorem dX0_perform_6 : decode cX0_perform 6 = .ok (.iload_n 1, 1) := by decide +kernel
theorem dX0_perform_7 : decode cX0_perform 7 = .ok (.invokevirtual 35, 3) := by decide +kernel
theorem dX0_perform_10 : decode cX0_perform 10 = .ok (.ifCond .eq 12, 3) := by decide +kernel
theorem dX0_perform_13 : decode cX0_perform 13 = .ok (.iload_n 2, 1) := by decide +kernel
theorem dX0_perform_14 : decode cX0_perform 14 = .ok (.ifCond .lt 8, 3) := by decide +kernel
theorem dX0_perform_17 : decode cX0_perform 17 = .ok (.iload_n 2, 1) := by decide +kernel
theorem dX0_perform_18 : decode cX0_perform 18 = .ok (.iconst 3, 1) := by decide +kernel
theorem dX0_perform_19 : decode cX0_perform 19 = .ok (.if_icmp .le 5, 3) := by decide +kernel
theorem dX0_perform_22 : decode cX0_perform 22 = .ok (.iconst 0, 1) := by decide +kernel
theorem dX0_perform_23 : decode cX0_perform 23 = .ok (.ireturn, 1) := by decide +kernel
theorem dX0_perform_24 : decode cX0_perform 24 = .ok (.aload_n 0, 1) := by decide +kernel
theorem dX0_perform_25 : decode cX0_perform 25 = .ok (.iload_n 1, 1) := by decide +kernel
theorem dX0_perform_26 : decode cX0_perform 26 = .ok (.putfield 25, 3) := by decide +kernel
theorem dX0_perform_29 : decode cX0_perform 29 = .ok (.aload_n 0, 1) := by decide +kernel
theorem dX0_perform_30 : decode cX0_perform 30 = .ok (.iload_n 2, 1) := by decide +kernel
theorem dX0_perform_31 : decode cX0_perform 31 = .ok (.iload_n 3, 1) := by decide +kernel
theorem dX0_perform_32 : decode cX0_perform 32 = .ok (.iconst 0, 1) := by decide +kernel
theorem dX0_perform_33 : decode cX0_perform 33 = .ok (.invokevirtual 44, 3) := by decide +kernel
theorem dX0_perform_36 : decode cX0_perform 36 = .ok (.ireturn, 1) := by decide +kernel
theorem dX0_self_0 : decode cX0_self 0 = .ok (.aload_n 0, 1) := by decide +kernel
theorem dX0_self_1 : decode cX0_self 1 = .ok (.aload_n 0, 1) := by decide +kernel
theorem dX0_self_2 : decode cX0_self 2 = .ok (.getfield 11, 3) := by decide +kernel
theorem dX0_self_5 : decode cX0_self 5 = .ok (.aload_n 0, 1) := by decide +kernel
theorem dX0_self_6 : decode cX0_self 6 = .ok (.getfield 25, 3) := by decide +kernel
theorem dX0_self_9 : decode cX0_self 9 = .ok (.iaload, 1) := by decide +kernel
theorem dX0_self_10 : decode cX0_self 10 = .ok (.iload_n 1, 1) := by decide +kernel
theorem dX0_self_11 : decode cX0_self 11 = .ok (.iload_n 2, 1) := by decide +kernel
theorem dX0_self_12 : decode cX0_self 12 = .ok (.iload_n 3, 1) := by decide +kernel
theorem dX0_self_13 : decode cX0_self 13 = .ok (.invokevirtual 48, 3) := by decide +kernel
theorem dX0_self_16 : decode cX0_self 16 = .ok (.ireturn, 1) := by decide +kernel
theorem dX0_from_0 : decode cX0_from 0 = .ok (.iload_n 1, 1) := by decide +kernel
theorem dX0_from_1 : decode cX0_from 1 = .ok (.istore 5, 2) := by decide +kernel
theorem dX0_from_3 : decode cX0_from 3 = .ok (.iconst 0, 1) := by decide +kernel
theorem dX0_from_4 : decode cX0_from 4 = .ok (.istore 6, 2) := by decide +kernel
theorem dX0_from_6 : decode cX0_from 6 = .ok (.iload 6, 2) := by decide +kernel
theorem dX0_from_8 : decode cX0_from 8 = .ok (.getstatic 28, 3) := by decide +kernel
theorem dX0_from_11 : decode cX0_from 11 = .ok (.arraylength, 1) := by decide +kernel
theorem dX0_from_12 : decode cX0_from 12 = .ok (.if_icmp .ge 61, 3) := by decide +kernel
theorem dX0_from_15 : decode cX0_from 15 = .ok (.iload 5, 2) := by decide +kernel
theorem dX0_from_17 : decode cX0_from 17 = .ok (.invokestatic 31, 3) := by decide +kernel
theorem dX0_from_20 : decode cX0_from 20 = .ok (.ifCond .eq 53, 3) := by decide +kernel
theorem dX0_from_23 : decode cX0_from 23 = .ok (.iload 5, 2) := by decide +kernel
theorem dX0_from_25 : decode cX0_from 25 = .ok (.iload_n 2, 1) := by decide +kernel
theorem dX0_from_26 : decode cX0_from 26 = .ok (.invokestatic 52, 3) := by decide +kernel
theorem dX0_from_29 : decode cX0_from 29 = .ok (.istore 7, 2) := by decide +kernel
theorem dX0_from_31 : decode cX0_from 31 = .ok (.iload 7, 2) := by decide +kernel
theorem dX0_from_33 : decode cX0_from 33 = .ok (.ifCond .eq 26, 3) := by decide +kernel
theorem dX0_from_36 : decode cX0_from 36 = .ok (.iload 4, 2) := by decide +kernel
theorem dX0_from_38 : decode cX0_from 38 = .ok (.bipush 40, 2) := by decide +kernel
theorem dX0_from_40 : decode cX0_from 40 = .ok (.if_icmp .ge 17, 3) := by decide +kernel
theorem dX0_from_43 : decode cX0_from 43 = .ok (.aload_n 0, 1) := by decide +kernel
theorem dX0_from_44 : decode cX0_from 44 = .ok (.iload 7, 2) := by decide +kernel
theorem dX0_from_46 : decode cX0_from 46 = .ok (.iload_n 3, 1) := by decide +kernel
theorem dX0_from_47 : decode cX0_from 47 = .ok (.iload 4, 2) := by decide +kernel
theorem dX0_from_49 : decode cX0_from 49 = .ok (.iconst 1, 1) := by decide +kernel
theorem dX0_from_50 : decode cX0_from 50 = .ok (.iadd, 1) := by decide +kernel
theorem dX0_from_51 : decode cX0_from 51 = .ok (.invokevirtual 55, 3) := by decide +kernel
theorem dX0_from_54 : decode cX0_from 54 = .ok (.goto 4, 3) := by decide +kernel
theorem dX0_from_57 : decode cX0_from 57 = .ok (.iconst 0, 1) := by decide +kernel
theorem dX0_from_58 : decode cX0_from 58 = .ok (.ireturn, 1) := by decide +kernel
theorem dX0_from_59 : decode cX0_from 59 = .ok (.getstatic 28, 3) := by decide +kernel
theorem dX0_from_62 : decode cX0_from 62 = .ok (.iload 5, 2) := by decide +kernel
theorem dX0_from_64 : decode cX0_from 64 = .ok (.iaload, 1) := by decide +kernel
theorem dX0_from_65 : decode cX0_from 65 = .ok (.istore 5, 2) := by decide +kernel
theorem dX0_from_67 : decode cX0_from 67 = .ok (.iinc 6 1, 3) := by decide +kernel
theorem dX0_from_70 : decode cX0_from 70 = .ok (.goto (-64), 3) := by decide +kernel
theorem dX0_from_73 : decode cX0_from 73 = .ok (.iconst 0, 1) := by decide +kernel
theorem dX0_from_74 : decode cX0_from 74 = .ok (.ireturn, 1) := by decide +kernel
theorem dX0_bodyOf_0 : decode cX0_bodyOf 0 = .ok (.iload_n 0, 1) := by decide +kernel
theorem dX0_bodyOf_1 : decode cX0_bodyOf 1 = .ok (.iconst 4, 1) := by decide +kernel
theorem dX0_bodyOf_2 : decode cX0_bodyOf 2 = .ok (.imul, 1) := by decide +kernel
theorem dX0_bodyOf_3 : decode cX0_bodyOf 3 = .ok (.iload_n 1, 1) := by decide +kernel
theorem dX0_bodyOf_4 : decode cX0_bodyOf 4 = .ok (.iadd, 1) := by decide +kernel
theorem dX0_bodyOf_5 : decode cX0_bodyOf 5 = .ok (.tableswitch 175 0 29 #[135, 137, 140, 143, 145, 175, 175, 175, 175, 148, 175, 175, 175, 154, 151, 175, 175, 175, 175, 157, 175, 175, 160, 163, 166, 175, 175, 175, 172, 169], 135) := by decide +kernel
theorem dX0_bodyOf_140 : decode cX0_bodyOf 140 = .ok (.iconst 1, 1) := by decide +kernel
theorem dX0_bodyOf_141 : decode cX0_bodyOf 141 = .ok (.ireturn, 1) := by decide +kernel
theorem dX0_bodyOf_142 : decode cX0_bodyOf 142 = .ok (.bipush 10, 2) := by decide +kernel
theorem dX0_bodyOf_144 : decode cX0_bodyOf 144 = .ok (.ireturn, 1) := by decide +kernel
theorem dX0_bodyOf_145 : decode cX0_bodyOf 145 = .ok (.bipush 11, 2) := by decide +kernel
theorem dX0_bodyOf_147 : decode cX0_bodyOf 147 = .ok (.ireturn, 1) := by decide +kernel
theorem dX0_bodyOf_148 : decode cX0_bodyOf 148 = .ok (.iconst 2, 1) := by decide +kernel
theorem dX0_bodyOf_149 : decode cX0_bodyOf 149 = .ok (.ireturn, 1) := by decide +kernel
theorem dX0_bodyOf_150 : decode cX0_bodyOf 150 = .ok (.bipush 20, 2) := by decide +kernel
theorem dX0_bodyOf_152 : decode cX0_bodyOf 152 = .ok (.ireturn, 1) := by decide +kernel
theorem dX0_bodyOf_153 : decode cX0_bodyOf 153 = .ok (.bipush 30, 2) := by decide +kernel
theorem dX0_bodyOf_155 : decode cX0_bodyOf 155 = .ok (.ireturn, 1) := by decide +kernel
theorem dX0_bodyOf_156 : decode cX0_bodyOf 156 = .ok (.bipush 40, 2) := by decide +kernel
theorem dX0_bodyOf_158 : decode cX0_bodyOf 158 = .ok (.ireturn, 1) := by decide +kernel
theorem dX0_bodyOf_159 : decode cX0_bodyOf 159 = .ok (.bipush 41, 2) := by decide +kernel
theorem dX0_bodyOf_161 : decode cX0_bodyOf 161 = .ok (.ireturn, 1) := by decide +kernel
theorem dX0_bodyOf_162 : decode cX0_bodyOf 162 = .ok (.bipush 50, 2) := by decide +kernel
theorem dX0_bodyOf_164 : decode cX0_bodyOf 164 = .ok (.ireturn, 1) := by decide +kernel
theorem dX0_bodyOf_165 : decode cX0_bodyOf 165 = .ok (.bipush 60, 2) := by decide +kernel
theorem dX0_bodyOf_167 : decode cX0_bodyOf 167 = .ok (.ireturn, 1) := by decide +kernel
theorem dX0_bodyOf_168 : decode cX0_bodyOf 168 = .ok (.bipush 61, 2) := by decide +kernel
theorem dX0_bodyOf_170 : decode cX0_bodyOf 170 = .ok (.ireturn, 1) := by decide +kernel
theorem dX0_bodyOf_171 : decode cX0_bodyOf 171 = .ok (.bipush 70, 2) := by decide +kernel
theorem dX0_bodyOf_173 : decode cX0_bodyOf 173 = .ok (.ireturn, 1) := by decide +kernel
theorem dX0_bodyOf_174 : decode cX0_bodyOf 174 = .ok (.bipush 80, 2) := by decide +kernel
theorem dX0_bodyOf_176 : decode cX0_bodyOf 176 = .ok (.ireturn, 1) := by decide +kernel
theorem dX0_bodyOf_177 : decode cX0_bodyOf 177 = .ok (.bipush 81, 2) := by decide +kernel
theorem dX0_bodyOf_179 : decode cX0_bodyOf 179 = .ok (.ireturn, 1) := by decide +kernel
theorem dX0_bodyOf_180 : decode cX0_bodyOf 180 = .ok (.iconst 0, 1) := by decide +kernel
theorem dX0_bodyOf_181 : decode cX0_bodyOf 181 = .ok (.ireturn, 1) := by decide +kernel
theorem dX0_run_0 : decode cX0_run 0 = .ok (.aload_n 0, 1) := by decide +kernel
theorem dX0_run_1 : decode cX0_run 1 = .ok (.getfield 22, 3) := by decide +kernel
theorem dX0_run_4 : decode cX0_run 4 = .ok (.bipush 24, 2) := by decide +kernel
theorem dX0_run_6 : decode cX0_run 6 = .ok (.if_icmp .ge 13, 3) := by decide +kernel
theorem dX0_run_9 : decode cX0_run 9 = .ok (.aload_n 0, 1) := by decide +kernel
theorem dX0_run_10 : decode cX0_run 10 = .ok (.getfield 19, 3) := by decide +kernel
theorem dX0_run_13 : decode cX0_run 13 = .ok (.aload_n 0, 1) := by decide +kernel
theorem dX0_run_14 : decode cX0_run 14 = .ok (.getfield 22, 3) := by decide +kernel
theorem dX0_run_17 : decode cX0_run 17 = .ok (.iload_n 1, 1) := by decide +kernel
theorem dX0_run_18 : decode cX0_run 18 = .ok (.iastore, 1) := by decide +kernel
theorem dX0_run_19 : decode cX0_run 19 = .ok (.aload_n 0, 1) := by decide +kernel
theorem dX0_run_20 : decode cX0_run 20 = .ok (.dup, 1) := by decide +kernel
theorem dX0_run_21 : decode cX0_run 21 = .ok (.getfield 22, 3) := by decide +kernel
theorem dX0_run_24 : decode cX0_run 24 = .ok (.iconst 1, 1) := by decide +kernel
theorem dX0_run_25 : decode cX0_run 25 = .ok (.iadd, 1) := by decide +kernel
theorem dX0_run_26 : decode cX0_run 26 = .ok (.putfield 22, 3) := by decide +kernel
theorem dX0_run_29 : decode cX0_run 29 = .ok (.iload_n 1, 1) := by decide +kernel
theorem dX0_run_30 : decode cX0_run 30 = .ok (.lookupswitch 326 #[(1, 122), (2, 129), (10, 145), (11, 155), (20, 162), (30, 177), (40, 191), (41, 206), (50, 221), (60, 236), (61, 257), (70, 272), (80, 288), (81, 310)], 122) := by decide +kernel
theorem dX0_run_152 : decode cX0_run 152 = .ok (.iload_n 2, 1) := by decide +kernel
theorem dX0_run_153 : decode cX0_run 153 = .ok (.aload_n 0, 1) := by decide +kernel
theorem dX0_run_154 : decode cX0_run 154 = .ok (.getfield 25, 3) := by decide +kernel
theorem dX0_run_157 : decode cX0_run 157 = .ok (.iadd, 1) := by decide +kernel
theorem dX0_run_158 : decode cX0_run 158 = .ok (.ireturn, 1) := by decide +kernel
theorem dX0_run_159 : decode cX0_run 159 = .ok (.aload_n 0, 1) := by decide +kernel
theorem dX0_run_160 : decode cX0_run 160 = .ok (.iconst 1, 1) := by decide +kernel
theorem dX0_run_161 : decode cX0_run 161 = .ok (.iload_n 2, 1) := by decide +kernel
theorem dX0_run_162 : decode cX0_run 162 = .ok (.iload_n 3, 1) := by decide +kernel
theorem dX0_run_163 : decode cX0_run 163 = .ok (.invokevirtual 44, 3) := by decide +kernel
theorem dX0_run_166 : decode cX0_run 166 = .ok (.aload_n 0, 1) := by decide +kernel
theorem dX0_run_167 : decode cX0_run 167 = .ok (.iconst 2, 1) := by decide +kernel
theorem dX0_run_168 : decode cX0_run 168 = .ok (.iconst 1, 1) := by decide +kernel
theorem dX0_run_169 : decode cX0_run 169 = .ok (.iload_n 3, 1) := by decide +kernel
theorem dX0_run_170 : decode cX0_run 170 = .ok (.invokevirtual 44, 3) := by decide +kernel
theorem dX0_run_173 : decode cX0_run 173 = .ok (.isub, 1) := by decide +kernel
theorem dX0_run_174 : decode cX0_run 174 = .ok (.ireturn, 1) := by decide +kernel
theorem dX0_run_175 : decode cX0_run 175 = .ok (.aload_n 0, 1) := by decide +kernel
theorem dX0_run_176 : decode cX0_run 176 = .ok (.iconst 0, 1) := by decide +kernel
theorem dX0_run_177 : decode cX0_run 177 = .ok (.iload_n 2, 1) := by decide +kernel
theorem dX0_run_178 : decode cX0_run 178 = .ok (.iload_n 3, 1) := by decide +kernel
theorem dX0_run_179 : decode cX0_run 179 = .ok (.invokevirtual 44, 3) := by decide +kernel
theorem dX0_run_182 : decode cX0_run 182 = .ok (.iconst 2, 1) := by decide +kernel
theorem dX0_run_183 : decode cX0_run 183 = .ok (.imul, 1) := by decide +kernel
theorem dX0_run_184 : decode cX0_run 184 = .ok (.ireturn, 1) := by decide +kernel
theorem dX0_run_185 : decode cX0_run 185 = .ok (.iload_n 2, 1) := by decide +kernel
theorem dX0_run_186 : decode cX0_run 186 = .ok (.aload_n 0, 1) := by decide +kernel
theorem dX0_run_187 : decode cX0_run 187 = .ok (.getfield 25, 3) := by decide +kernel
theorem dX0_run_190 : decode cX0_run 190 = .ok (.ixor, 1) := by decide +kernel
theorem dX0_run_191 : decode cX0_run 191 = .ok (.ireturn, 1) := by decide +kernel
theorem dX0_run_192 : decode cX0_run 192 = .ok (.aload_n 0, 1) := by decide +kernel
theorem dX0_run_193 : decode cX0_run 193 = .ok (.getstatic 28, 3) := by decide +kernel
theorem dX0_run_196 : decode cX0_run 196 = .ok (.iconst 1, 1) := by decide +kernel
theorem dX0_run_197 : decode cX0_run 197 = .ok (.iaload, 1) := by decide +kernel
theorem dX0_run_198 : decode cX0_run 198 = .ok (.iconst 0, 1) := by decide +kernel
theorem dX0_run_199 : decode cX0_run 199 = .ok (.iload_n 2, 1) := by decide +kernel
theorem dX0_run_200 : decode cX0_run 200 = .ok (.iload_n 3, 1) := by decide +kernel
theorem dX0_run_201 : decode cX0_run 201 = .ok (.invokevirtual 48, 3) := by decide +kernel
theorem dX0_run_204 : decode cX0_run 204 = .ok (.iconst 3, 1) := by decide +kernel
theorem dX0_run_205 : decode cX0_run 205 = .ok (.iadd, 1) := by decide +kernel
theorem dX0_run_206 : decode cX0_run 206 = .ok (.ireturn, 1) := by decide +kernel
theorem dX0_run_207 : decode cX0_run 207 = .ok (.aload_n 0, 1) := by decide +kernel
theorem dX0_run_208 : decode cX0_run 208 = .ok (.getstatic 28, 3) := by decide +kernel
theorem dX0_run_211 : decode cX0_run 211 = .ok (.iconst 2, 1) := by decide +kernel
theorem dX0_run_212 : decode cX0_run 212 = .ok (.iaload, 1) := by decide +kernel
theorem dX0_run_213 : decode cX0_run 213 = .ok (.iconst 1, 1) := by decide +kernel
theorem dX0_run_214 : decode cX0_run 214 = .ok (.iload_n 2, 1) := by decide +kernel
theorem dX0_run_215 : decode cX0_run 215 = .ok (.iload_n 3, 1) := by decide +kernel
theorem dX0_run_216 : decode cX0_run 216 = .ok (.invokevirtual 48, 3) := by decide +kernel
theorem dX0_run_219 : decode cX0_run 219 = .ok (.ineg, 1) := by decide +kernel
theorem dX0_run_220 : decode cX0_run 220 = .ok (.ireturn, 1) := by decide +kernel
theorem dX0_run_221 : decode cX0_run 221 = .ok (.aload_n 0, 1) := by decide +kernel
theorem dX0_run_222 : decode cX0_run 222 = .ok (.getstatic 28, 3) := by decide +kernel
theorem dX0_run_225 : decode cX0_run 225 = .ok (.iconst 3, 1) := by decide +kernel
theorem dX0_run_226 : decode cX0_run 226 = .ok (.iaload, 1) := by decide +kernel
theorem dX0_run_227 : decode cX0_run 227 = .ok (.iconst 2, 1) := by decide +kernel
theorem dX0_run_228 : decode cX0_run 228 = .ok (.iload_n 2, 1) := by decide +kernel
theorem dX0_run_229 : decode cX0_run 229 = .ok (.iload_n 3, 1) := by decide +kernel
theorem dX0_run_230 : decode cX0_run 230 = .ok (.invokevirtual 48, 3) := by decide +kernel
theorem dX0_run_233 : decode cX0_run 233 = .ok (.iconst 3, 1) := by decide +kernel
theorem dX0_run_234 : decode cX0_run 234 = .ok (.imul, 1) := by decide +kernel
theorem dX0_run_235 : decode cX0_run 235 = .ok (.ireturn, 1) := by decide +kernel
theorem dX0_run_236 : decode cX0_run 236 = .ok (.aload_n 0, 1) := by decide +kernel
theorem dX0_run_237 : decode cX0_run 237 = .ok (.getstatic 28, 3) := by decide +kernel
theorem dX0_run_240 : decode cX0_run 240 = .ok (.iconst 3, 1) := by decide +kernel
theorem dX0_run_241 : decode cX0_run 241 = .ok (.iaload, 1) := by decide +kernel
theorem dX0_run_242 : decode cX0_run 242 = .ok (.iconst 1, 1) := by decide +kernel
theorem dX0_run_243 : decode cX0_run 243 = .ok (.iload_n 2, 1) := by decide +kernel
theorem dX0_run_244 : decode cX0_run 244 = .ok (.iconst 1, 1) := by decide +kernel
theorem dX0_run_245 : decode cX0_run 245 = .ok (.iadd, 1) := by decide +kernel
theorem dX0_run_246 : decode cX0_run 246 = .ok (.iload_n 3, 1) := by decide +kernel
theorem dX0_run_247 : decode cX0_run 247 = .ok (.invokevirtual 48, 3) := by decide +kernel
theorem dX0_run_250 : decode cX0_run 250 = .ok (.ireturn, 1) := by decide +kernel
theorem dX0_run_251 : decode cX0_run 251 = .ok (.aload_n 0, 1) := by decide +kernel
theorem dX0_run_252 : decode cX0_run 252 = .ok (.getstatic 28, 3) := by decide +kernel
theorem dX0_run_255 : decode cX0_run 255 = .ok (.iconst 4, 1) := by decide +kernel
theorem dX0_run_256 : decode cX0_run 256 = .ok (.iaload, 1) := by decide +kernel
theorem dX0_run_257 : decode cX0_run 257 = .ok (.iconst 3, 1) := by decide +kernel
theorem dX0_run_258 : decode cX0_run 258 = .ok (.iload_n 2, 1) := by decide +kernel
theorem dX0_run_259 : decode cX0_run 259 = .ok (.iload_n 3, 1) := by decide +kernel
theorem dX0_run_260 : decode cX0_run 260 = .ok (.invokevirtual 48, 3) := by decide +kernel
theorem dX0_run_263 : decode cX0_run 263 = .ok (.iconst 5, 1) := by decide +kernel
theorem dX0_run_264 : decode cX0_run 264 = .ok (.ixor, 1) := by decide +kernel
theorem dX0_run_265 : decode cX0_run 265 = .ok (.ireturn, 1) := by decide +kernel
theorem dX0_run_266 : decode cX0_run 266 = .ok (.aload_n 0, 1) := by decide +kernel
theorem dX0_run_267 : decode cX0_run 267 = .ok (.getstatic 28, 3) := by decide +kernel
theorem dX0_run_270 : decode cX0_run 270 = .ok (.iconst 5, 1) := by decide +kernel
theorem dX0_run_271 : decode cX0_run 271 = .ok (.iaload, 1) := by decide +kernel
theorem dX0_run_272 : decode cX0_run 272 = .ok (.iconst 2, 1) := by decide +kernel
theorem dX0_run_273 : decode cX0_run 273 = .ok (.iload_n 2, 1) := by decide +kernel
theorem dX0_run_274 : decode cX0_run 274 = .ok (.iload_n 3, 1) := by decide +kernel
theorem dX0_run_275 : decode cX0_run 275 = .ok (.invokevirtual 48, 3) := by decide +kernel
theorem dX0_run_278 : decode cX0_run 278 = .ok (.aload_n 0, 1) := by decide +kernel
theorem dX0_run_279 : decode cX0_run 279 = .ok (.iconst 0, 1) := by decide +kernel
theorem dX0_run_280 : decode cX0_run 280 = .ok (.iconst 2, 1) := by decide +kernel
theorem dX0_run_281 : decode cX0_run 281 = .ok (.iload_n 3, 1) := by decide +kernel
theorem dX0_run_282 : decode cX0_run 282 = .ok (.invokevirtual 44, 3) := by decide +kernel
theorem dX0_run_285 : decode cX0_run 285 = .ok (.isub, 1) := by decide +kernel
theorem dX0_run_286 : decode cX0_run 286 = .ok (.ireturn, 1) := by decide +kernel
theorem dX0_run_287 : decode cX0_run 287 = .ok (.aload_n 0, 1) := by decide +kernel
theorem dX0_run_288 : decode cX0_run 288 = .ok (.getstatic 28, 3) := by decide +kernel
theorem dX0_run_291 : decode cX0_run 291 = .ok (.iconst 5, 1) := by decide +kernel
theorem dX0_run_292 : decode cX0_run 292 = .ok (.iaload, 1) := by decide +kernel
theorem dX0_run_293 : decode cX0_run 293 = .ok (.iconst 3, 1) := by decide +kernel
theorem dX0_run_294 : decode cX0_run 294 = .ok (.iload_n 2, 1) := by decide +kernel
theorem dX0_run_295 : decode cX0_run 295 = .ok (.iload_n 3, 1) := by decide +kernel
theorem dX0_run_296 : decode cX0_run 296 = .ok (.invokevirtual 48, 3) := by decide +kernel
theorem dX0_run_299 : decode cX0_run 299 = .ok (.iconst 1, 1) := by decide +kernel
theorem dX0_run_300 : decode cX0_run 300 = .ok (.iadd, 1) := by decide +kernel
theorem dX0_run_301 : decode cX0_run 301 = .ok (.ireturn, 1) := by decide +kernel
theorem dX0_run_302 : decode cX0_run 302 = .ok (.aload_n 0, 1) := by decide +kernel
theorem dX0_run_303 : decode cX0_run 303 = .ok (.getstatic 28, 3) := by decide +kernel
theorem dX0_run_306 : decode cX0_run 306 = .ok (.bipush 6, 2) := by decide +kernel
theorem dX0_run_308 : decode cX0_run 308 = .ok (.iaload, 1) := by decide +kernel
theorem dX0_run_309 : decode cX0_run 309 = .ok (.iconst 0, 1) := by decide +kernel
theorem dX0_run_310 : decode cX0_run 310 = .ok (.iload_n 2, 1) := by decide +kernel
theorem dX0_run_311 : decode cX0_run 311 = .ok (.iload_n 3, 1) := by decide +kernel
theorem dX0_run_312 : decode cX0_run 312 = .ok (.invokevirtual 48, 3) := by decide +kernel
theorem dX0_run_315 : decode cX0_run 315 = .ok (.iconst 2, 1) := by decide +kernel
theorem dX0_run_316 : decode cX0_run 316 = .ok (.imul, 1) := by decide +kernel
theorem dX0_run_317 : decode cX0_run 317 = .ok (.ireturn, 1) := by decide +kernel
theorem dX0_run_318 : decode cX0_run 318 = .ok (.aload_n 0, 1) := by decide +kernel
theorem dX0_run_319 : decode cX0_run 319 = .ok (.getstatic 28, 3) := by decide +kernel
theorem dX0_run_322 : decode cX0_run 322 = .ok (.bipush 7, 2) := by decide +kernel
theorem dX0_run_324 : decode cX0_run 324 = .ok (.iaload, 1) := by decide +kernel
theorem dX0_run_325 : decode cX0_run 325 = .ok (.iconst 1, 1) := by decide +kernel
theorem dX0_run_326 : decode cX0_run 326 = .ok (.iload_n 2, 1) := by decide +kernel
theorem dX0_run_327 : decode cX0_run 327 = .ok (.iload_n 3, 1) := by decide +kernel
theorem dX0_run_328 : decode cX0_run 328 = .ok (.invokevirtual 48, 3) := by decide +kernel
theorem dX0_run_331 : decode cX0_run 331 = .ok (.aload_n 0, 1) := by decide +kernel
theorem dX0_run_332 : decode cX0_run 332 = .ok (.iconst 2, 1) := by decide +kernel
theorem dX0_run_333 : decode cX0_run 333 = .ok (.iconst 2, 1) := by decide +kernel
theorem dX0_run_334 : decode cX0_run 334 = .ok (.iload_n 3, 1) := by decide +kernel
theorem dX0_run_335 : decode cX0_run 335 = .ok (.invokevirtual 44, 3) := by decide +kernel
theorem dX0_run_338 : decode cX0_run 338 = .ok (.iadd, 1) := by decide +kernel
theorem dX0_run_339 : decode cX0_run 339 = .ok (.ireturn, 1) := by decide +kernel
theorem dX0_run_340 : decode cX0_run 340 = .ok (.aload_n 0, 1) := by decide +kernel
theorem dX0_run_341 : decode cX0_run 341 = .ok (.getstatic 28, 3) := by decide +kernel
theorem dX0_run_344 : decode cX0_run 344 = .ok (.bipush 7, 2) := by decide +kernel
theorem dX0_run_346 : decode cX0_run 346 = .ok (.iaload, 1) := by decide +kernel
theorem dX0_run_347 : decode cX0_run 347 = .ok (.iconst 0, 1) := by decide +kernel
theorem dX0_run_348 : decode cX0_run 348 = .ok (.iload_n 2, 1) := by decide +kernel
theorem dX0_run_349 : decode cX0_run 349 = .ok (.iload_n 3, 1) := by decide +kernel
theorem dX0_run_350 : decode cX0_run 350 = .ok (.invokevirtual 48, 3) := by decide +kernel
theorem dX0_run_353 : decode cX0_run 353 = .ok (.iconst 1, 1) := by decide +kernel
theorem dX0_run_354 : decode cX0_run 354 = .ok (.isub, 1) := by decide +kernel
theorem dX0_run_355 : decode cX0_run 355 = .ok (.ireturn, 1) := by decide +kernel
theorem dX0_run_356 : decode cX0_run 356 = .ok (.iconst 0, 1) := by decide +kernel
theorem dX0_run_357 : decode cX0_run 357 = .ok (.ireturn, 1) := by decide +kernel
