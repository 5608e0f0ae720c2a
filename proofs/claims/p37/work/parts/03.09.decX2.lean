theorem dX2_init_0 : decode cX2_init 0 = .ok (.aload_n 0, 1) := by decide +kernel
theorem dX2_init_1 : decode cX2_init 1 = .ok (.invokespecial 3, 3) := by decide +kernel
theorem dX2_init_4 : decode cX2_init 4 = .ok (.aload_n 0, 1) := by decide +kernel
theorem dX2_init_5 : decode cX2_init 5 = .ok (.bipush 24, 2) := by decide +kernel
theorem dX2_init_7 : decode cX2_init 7 = .ok (.newarray .int, 2) := by decide +kernel
theorem dX2_init_9 : decode cX2_init 9 = .ok (.putfield 9, 3) := by decide +kernel
theorem dX2_init_12 : decode cX2_init 12 = .ok (.aload_n 0, 1) := by decide +kernel
theorem dX2_init_13 : decode cX2_init 13 = .ok (.iconst 0, 1) := by decide +kernel
theorem dX2_init_14 : decode cX2_init 14 = .ok (.putfield 15, 3) := by decide +kernel
theorem dX2_init_17 : decode cX2_init 17 = .ok (.return_, 1) := by decide +kernel
theorem dX2_read_0 : decode cX2_read 0 = .ok (.aload_n 0, 1) := by decide +kernel
theorem dX2_read_1 : decode cX2_read 1 = .ok (.iconst 0, 1) := by decide +kernel
theorem dX2_read_2 : decode cX2_read 2 = .ok (.putfield 15, 3) := by decide +kernel
theorem dX2_read_5 : decode cX2_read 5 = .ok (.bipush 24, 2) := by decide +kernel
theorem dX2_read_7 : decode cX2_read 7 = .ok (.aload_n 1, 1) := by decide +kernel
theorem dX2_read_8 : decode cX2_read 8 = .ok (.iload_n 2, 1) := by decide +kernel
theorem dX2_read_9 : decode cX2_read 9 = .ok (.invokevirtual 19, 3) := by decide +kernel
theorem dX2_read_12 : decode cX2_read 12 = .ok (.invokestatic 25, 3) := by decide +kernel
theorem dX2_read_15 : decode cX2_read 15 = .ok (.istore 4, 2) := by decide +kernel
theorem dX2_read_17 : decode cX2_read 17 = .ok (.iconst 0, 1) := by decide +kernel
theorem dX2_read_18 : decode cX2_read 18 = .ok (.istore 5, 2) := by decide +kernel
theorem dX2_read_20 : decode cX2_read 20 = .ok (.iload 5, 2) := by decide +kernel
theorem dX2_read_22 : decode cX2_read 22 = .ok (.iload 4, 2) := by decide +kernel
theorem dX2_read_24 : decode cX2_read 24 = .ok (.if_icmp .ge 50, 3) := by decide +kernel
theorem dX2_read_27 : decode cX2_read 27 = .ok (.aload_n 1, 1) := by decide +kernel
theorem dX2_read_28 : decode cX2_read 28 = .ok (.iload_n 2, 1) := by decide +kernel
theorem dX2_read_29 : decode cX2_read 29 = .ok (.iload 5, 2) := by decide +kernel
theorem dX2_read_31 : decode cX2_read 31 = .ok (.invokevirtual 31, 3) := by decide +kernel
theorem dX2_read_34 : decode cX2_read 34 = .ok (.l2i, 1) := by decide +kernel
theorem dX2_read_35 : decode cX2_read 35 = .ok (.istore 6, 2) := by decide +kernel
theorem dX2_read_37 : decode cX2_read 37 = .ok (.iload 6, 2) := by decide +kernel
theorem dX2_read_39 : decode cX2_read 39 = .ok (.ifCond .lt 11, 3) := by decide +kernel
theorem dX2_read_42 : decode cX2_read 42 = .ok (.iload 6, 2) := by decide +kernel
theorem dX2_read_44 : decode cX2_read 44 = .ok (.iconst 2, 1) := by decide +kernel
theorem dX2_read_45 : decode cX2_read 45 = .ok (.idiv, 1) := by decide +kernel
theorem dX2_read_46 : decode cX2_read 46 = .ok (.iload_n 3, 1) := by decide +kernel
theorem dX2_read_47 : decode cX2_read 47 = .ok (.if_icmp .lt 4, 3) := by decide +kernel
theorem dX2_read_50 : decode cX2_read 50 = .ok (.return_, 1) := by decide +kernel
theorem dX2_read_51 : decode cX2_read 51 = .ok (.aload_n 0, 1) := by decide +kernel
theorem dX2_read_52 : decode cX2_read 52 = .ok (.getfield 9, 3) := by decide +kernel
theorem dX2_read_55 : decode cX2_read 55 = .ok (.iload 5, 2) := by decide +kernel
theorem dX2_read_57 : decode cX2_read 57 = .ok (.iload 6, 2) := by decide +kernel
theorem dX2_read_59 : decode cX2_read 59 = .ok (.iastore, 1) := by decide +kernel
theorem dX2_read_60 : decode cX2_read 60 = .ok (.aload_n 0, 1) := by decide +kernel
theorem dX2_read_61 : decode cX2_read 61 = .ok (.iload 5, 2) := by decide +kernel
theorem dX2_read_63 : decode cX2_read 63 = .ok (.iconst 1, 1) := by decide +kernel
theorem dX2_read_64 : decode cX2_read 64 = .ok (.iadd, 1) := by decide +kernel
theorem dX2_read_65 : decode cX2_read 65 = .ok (.putfield 15, 3) := by decide +kernel
theorem dX2_read_68 : decode cX2_read 68 = .ok (.iinc 5 1, 3) := by decide +kernel
theorem dX2_read_71 : decode cX2_read 71 = .ok (.goto (-51), 3) := by decide +kernel
theorem dX2_read_74 : decode cX2_read 74 = .ok (.return_, 1) := by decide +kernel
theorem dX2_who_0 : decode cX2_who 0 = .ok (.aload_n 0, 1) := by decide +kernel
theorem dX2_who_1 : decode cX2_who 1 = .ok (.getfield 9, 3) := by decide +kernel
theorem dX2_who_4 : decode cX2_who 4 = .ok (.iload_n 1, 1) := by decide +kernel
theorem dX2_who_5 : decode cX2_who 5 = .ok (.iaload, 1) := by decide +kernel
theorem dX2_who_6 : decode cX2_who 6 = .ok (.iconst 2, 1) := by decide +kernel
theorem dX2_who_7 : decode cX2_who 7 = .ok (.idiv, 1) := by decide +kernel
theorem dX2_who_8 : decode cX2_who 8 = .ok (.ireturn, 1) := by decide +kernel
theorem dX2_isLie_0 : decode cX2_isLie 0 = .ok (.aload_n 0, 1) := by decide +kernel
theorem dX2_isLie_1 : decode cX2_isLie 1 = .ok (.getfield 9, 3) := by decide +kernel
theorem dX2_isLie_4 : decode cX2_isLie 4 = .ok (.iload_n 1, 1) := by decide +kernel
theorem dX2_isLie_5 : decode cX2_isLie 5 = .ok (.iaload, 1) := by decide +kernel
theorem dX2_isLie_6 : decode cX2_isLie 6 = .ok (.iconst 2, 1) := by decide +kernel
theorem dX2_isLie_7 : decode cX2_isLie 7 = .ok (.irem, 1) := by decide +kernel
theorem dX2_isLie_8 : decode cX2_isLie 8 = .ok (.iconst 1, 1) := by decide +kernel
theorem dX2_isLie_9 : decode cX2_isLie 9 = .ok (.if_icmp .ne 7, 3) := by decide +kernel
theorem dX2_isLie_12 : decode cX2_isLie 12 = .ok (.iconst 1, 1) := by decide +kernel
theorem dX2_isLie_13 : decode cX2_isLie 13 = .ok (.goto 4, 3) := by decide +kernel
theorem dX2_isLie_16 : decode cX2_isLie 16 = .ok (.iconst 0, 1) := by decide +kernel
theorem dX2_isLie_17 : decode cX2_isLie 17 = .ok (.ireturn, 1) := by decide +kernel
