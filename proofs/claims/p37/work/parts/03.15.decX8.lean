theorem dX8_init_0 : decode cX8_init 0 = .ok (.aload_n 0, 1) := by decide +kernel
theorem dX8_init_1 : decode cX8_init 1 = .ok (.invokespecial 3, 3) := by decide +kernel
theorem dX8_init_4 : decode cX8_init 4 = .ok (.aload_n 0, 1) := by decide +kernel
theorem dX8_init_5 : decode cX8_init 5 = .ok (.bipush 7, 2) := by decide +kernel
theorem dX8_init_7 : decode cX8_init 7 = .ok (.newarray .int, 2) := by decide +kernel
theorem dX8_init_9 : decode cX8_init 9 = .ok (.putfield 9, 3) := by decide +kernel
theorem dX8_init_12 : decode cX8_init 12 = .ok (.aload_n 0, 1) := by decide +kernel
theorem dX8_init_13 : decode cX8_init 13 = .ok (.bipush 7, 2) := by decide +kernel
theorem dX8_init_15 : decode cX8_init 15 = .ok (.newarray .int, 2) := by decide +kernel
theorem dX8_init_17 : decode cX8_init 17 = .ok (.putfield 15, 3) := by decide +kernel
theorem dX8_init_20 : decode cX8_init 20 = .ok (.aload_n 0, 1) := by decide +kernel
theorem dX8_init_21 : decode cX8_init 21 = .ok (.iconst 0, 1) := by decide +kernel
theorem dX8_init_22 : decode cX8_init 22 = .ok (.putfield 18, 3) := by decide +kernel
theorem dX8_init_25 : decode cX8_init 25 = .ok (.aload_n 0, 1) := by decide +kernel
theorem dX8_init_26 : decode cX8_init 26 = .ok (.iconst 0, 1) := by decide +kernel
theorem dX8_init_27 : decode cX8_init 27 = .ok (.putfield 22, 3) := by decide +kernel
theorem dX8_init_30 : decode cX8_init 30 = .ok (.aload_n 0, 1) := by decide +kernel
theorem dX8_init_31 : decode cX8_init 31 = .ok (.aload_n 1, 1) := by decide +kernel
theorem dX8_init_32 : decode cX8_init 32 = .ok (.putfield 25, 3) := by decide +kernel
theorem dX8_init_35 : decode cX8_init 35 = .ok (.aload_n 0, 1) := by decide +kernel
theorem dX8_init_36 : decode cX8_init 36 = .ok (.aload_n 2, 1) := by decide +kernel
theorem dX8_init_37 : decode cX8_init 37 = .ok (.putfield 29, 3) := by decide +kernel
theorem dX8_init_40 : decode cX8_init 40 = .ok (.return_, 1) := by decide +kernel
theorem dX8_tryAll_0 : decode cX8_tryAll 0 = .ok (.aload_n 0, 1) := by decide +kernel
theorem dX8_tryAll_1 : decode cX8_tryAll 1 = .ok (.bipush 24, 2) := by decide +kernel
theorem dX8_tryAll_3 : decode cX8_tryAll 3 = .ok (.putfield 18, 3) := by decide +kernel
theorem dX8_tryAll_6 : decode cX8_tryAll 6 = .ok (.aload_n 0, 1) := by decide +kernel
theorem dX8_tryAll_7 : decode cX8_tryAll 7 = .ok (.iconst 0, 1) := by decide +kernel
theorem dX8_tryAll_8 : decode cX8_tryAll 8 = .ok (.putfield 22, 3) := by decide +kernel
theorem dX8_tryAll_11 : decode cX8_tryAll 11 = .ok (.aload_n 0, 1) := by decide +kernel
theorem dX8_tryAll_12 : decode cX8_tryAll 12 = .ok (.getfield 25, 3) := by decide +kernel
theorem dX8_tryAll_15 : decode cX8_tryAll 15 = .ok (.iconst 0, 1) := by decide +kernel
theorem dX8_tryAll_16 : decode cX8_tryAll 16 = .ok (.aaload, 1) := by decide +kernel
theorem dX8_tryAll_17 : decode cX8_tryAll 17 = .ok (.aload_n 1, 1) := by decide +kernel
theorem dX8_tryAll_18 : decode cX8_tryAll 18 = .ok (.invokevirtual 33, 3) := by decide +kernel
theorem dX8_tryAll_21 : decode cX8_tryAll 21 = .ok (.aload_n 0, 1) := by decide +kernel
theorem dX8_tryAll_22 : decode cX8_tryAll 22 = .ok (.iconst 0, 1) := by decide +kernel
theorem dX8_tryAll_23 : decode cX8_tryAll 23 = .ok (.iconst 0, 1) := by decide +kernel
theorem dX8_tryAll_24 : decode cX8_tryAll 24 = .ok (.invokestatic 39, 3) := by decide +kernel
theorem dX8_tryAll_27 : decode cX8_tryAll 27 = .ok (.return_, 1) := by decide +kernel
theorem dX8_placeOf_0 : decode cX8_placeOf 0 = .ok (.iload_n 1, 1) := by decide +kernel
theorem dX8_placeOf_1 : decode cX8_placeOf 1 = .ok (.ifCond .lt 18, 3) := by decide +kernel
theorem dX8_placeOf_4 : decode cX8_placeOf 4 = .ok (.iload_n 1, 1) := by decide +kernel
theorem dX8_placeOf_5 : decode cX8_placeOf 5 = .ok (.bipush 7, 2) := by decide +kernel
theorem dX8_placeOf_7 : decode cX8_placeOf 7 = .ok (.if_icmp .ge 12, 3) := by decide +kernel
theorem dX8_placeOf_10 : decode cX8_placeOf 10 = .ok (.aload_n 0, 1) := by decide +kernel
theorem dX8_placeOf_11 : decode cX8_placeOf 11 = .ok (.getfield 15, 3) := by decide +kernel
theorem dX8_placeOf_14 : decode cX8_placeOf 14 = .ok (.iload_n 1, 1) := by decide +kernel
theorem dX8_placeOf_15 : decode cX8_placeOf 15 = .ok (.iaload, 1) := by decide +kernel
theorem dX8_placeOf_16 : decode cX8_placeOf 16 = .ok (.goto 5, 3) := by decide +kernel
theorem dX8_placeOf_19 : decode cX8_placeOf 19 = .ok (.bipush (-2), 2) := by decide +kernel
theorem dX8_placeOf_21 : decode cX8_placeOf 21 = .ok (.ireturn, 1) := by decide +kernel
theorem dX8_arrange_0 : decode cX8_arrange 0 = .ok (.aload_n 0, 1) := by decide +kernel
theorem dX8_arrange_1 : decode cX8_arrange 1 = .ok (.getfield 25, 3) := by decide +kernel
theorem dX8_arrange_4 : decode cX8_arrange 4 = .ok (.iload_n 1, 1) := by decide +kernel
theorem dX8_arrange_5 : decode cX8_arrange 5 = .ok (.aaload, 1) := by decide +kernel
theorem dX8_arrange_6 : decode cX8_arrange 6 = .ok (.astore_n 3, 1) := by decide +kernel
theorem dX8_arrange_7 : decode cX8_arrange 7 = .ok (.aload_n 3, 1) := by decide +kernel
theorem dX8_arrange_8 : decode cX8_arrange 8 = .ok (.getfield 43, 3) := by decide +kernel
theorem dX8_arrange_11 : decode cX8_arrange 11 = .ok (.ifCond .le 15, 3) := by decide +kernel
theorem dX8_arrange_14 : decode cX8_arrange 14 = .ok (.aload_n 3, 1) := by decide +kernel
theorem dX8_arrange_15 : decode cX8_arrange 15 = .ok (.getfield 43, 3) := by decide +kernel
theorem dX8_arrange_18 : decode cX8_arrange 18 = .ok (.aload_n 0, 1) := by decide +kernel
theorem dX8_arrange_19 : decode cX8_arrange 19 = .ok (.getfield 18, 3) := by decide +kernel
theorem dX8_arrange_22 : decode cX8_arrange 22 = .ok (.if_icmp .lt 4, 3) := by decide +kernel
theorem dX8_arrange_25 : decode cX8_arrange 25 = .ok (.return_, 1) := by decide +kernel
theorem dX8_arrange_26 : decode cX8_arrange 26 = .ok (.aload_n 0, 1) := by decide +kernel
theorem dX8_arrange_27 : decode cX8_arrange 27 = .ok (.getfield 29, 3) := by decide +kernel
theorem dX8_arrange_30 : decode cX8_arrange 30 = .ok (.astore 4, 2) := by decide +kernel
theorem dX8_arrange_32 : decode cX8_arrange 32 = .ok (.iload_n 1, 1) := by decide +kernel
theorem dX8_arrange_33 : decode cX8_arrange 33 = .ok (.aload 4, 2) := by decide +kernel
theorem dX8_arrange_35 : decode cX8_arrange 35 = .ok (.getfield 46, 3) := by decide +kernel
theorem dX8_arrange_38 : decode cX8_arrange 38 = .ok (.if_icmp .ge 9, 3) := by decide +kernel
theorem dX8_arrange_41 : decode cX8_arrange 41 = .ok (.iload_n 1, 1) := by decide +kernel
theorem dX8_arrange_42 : decode cX8_arrange 42 = .ok (.bipush 7, 2) := by decide +kernel
theorem dX8_arrange_44 : decode cX8_arrange 44 = .ok (.if_icmp .lt 12, 3) := by decide +kernel
theorem dX8_arrange_47 : decode cX8_arrange 47 = .ok (.aload_n 0, 1) := by decide +kernel
theorem dX8_arrange_48 : decode cX8_arrange 48 = .ok (.aload_n 3, 1) := by decide +kernel
theorem dX8_arrange_49 : decode cX8_arrange 49 = .ok (.getfield 43, 3) := by decide +kernel
theorem dX8_arrange_52 : decode cX8_arrange 52 = .ok (.invokevirtual 51, 3) := by decide +kernel
theorem dX8_arrange_55 : decode cX8_arrange 55 = .ok (.return_, 1) := by decide +kernel
theorem dX8_arrange_56 : decode cX8_arrange 56 = .ok (.aload_n 0, 1) := by decide +kernel
theorem dX8_arrange_57 : decode cX8_arrange 57 = .ok (.getfield 25, 3) := by decide +kernel
theorem dX8_arrange_60 : decode cX8_arrange 60 = .ok (.iload_n 1, 1) := by decide +kernel
theorem dX8_arrange_61 : decode cX8_arrange 61 = .ok (.iconst 1, 1) := by decide +kernel
theorem dX8_arrange_62 : decode cX8_arrange 62 = .ok (.iadd, 1) := by decide +kernel
theorem dX8_arrange_63 : decode cX8_arrange 63 = .ok (.aaload, 1) := by decide +kernel
theorem dX8_arrange_64 : decode cX8_arrange 64 = .ok (.astore 5, 2) := by decide +kernel
theorem dX8_arrange_66 : decode cX8_arrange 66 = .ok (.iconst 0, 1) := by decide +kernel
theorem dX8_arrange_67 : decode cX8_arrange 67 = .ok (.istore 6, 2) := by decide +kernel
theorem dX8_arrange_69 : decode cX8_arrange 69 = .ok (.iload 6, 2) := by decide +kernel
theorem dX8_arrange_71 : decode cX8_arrange 71 = .ok (.aload 4, 2) := by decide +kernel
theorem dX8_arrange_73 : decode cX8_arrange 73 = .ok (.getfield 46, 3) := by decide +kernel
theorem dX8_arrange_76 : decode cX8_arrange 76 = .ok (.if_icmp .ge 67, 3) := by decide +kernel
theorem dX8_arrange_79 : decode cX8_arrange 79 = .ok (.iload_n 2, 1) := by decide +kernel
theorem dX8_arrange_80 : decode cX8_arrange 80 = .ok (.iload 6, 2) := by decide +kernel
theorem dX8_arrange_82 : decode cX8_arrange 82 = .ok (.ishr, 1) := by decide +kernel
theorem dX8_arrange_83 : decode cX8_arrange 83 = .ok (.iconst 1, 1) := by decide +kernel
theorem dX8_arrange_84 : decode cX8_arrange 84 = .ok (.iand, 1) := by decide +kernel
theorem dX8_arrange_85 : decode cX8_arrange 85 = .ok (.ifCond .ne 52, 3) := by decide +kernel
theorem dX8_arrange_88 : decode cX8_arrange 88 = .ok (.aload_n 0, 1) := by decide +kernel
theorem dX8_arrange_89 : decode cX8_arrange 89 = .ok (.getfield 9, 3) := by decide +kernel
theorem dX8_arrange_92 : decode cX8_arrange 92 = .ok (.iload_n 1, 1) := by decide +kernel
theorem dX8_arrange_93 : decode cX8_arrange 93 = .ok (.iload 6, 2) := by decide +kernel
theorem dX8_arrange_95 : decode cX8_arrange 95 = .ok (.iastore, 1) := by decide +kernel
theorem dX8_arrange_96 : decode cX8_arrange 96 = .ok (.aload 5, 2) := by decide +kernel
theorem dX8_arrange_98 : decode cX8_arrange 98 = .ok (.aload_n 3, 1) := by decide +kernel
theorem dX8_arrange_99 : decode cX8_arrange 99 = .ok (.bipush 8, 2) := by decide +kernel
theorem dX8_arrange_101 : decode cX8_arrange 101 = .ok (.invokevirtual 55, 3) := by decide +kernel
theorem dX8_arrange_104 : decode cX8_arrange 104 = .ok (.aload 5, 2) := by decide +kernel
theorem dX8_arrange_106 : decode cX8_arrange 106 = .ok (.aload 4, 2) := by decide +kernel
theorem dX8_arrange_108 : decode cX8_arrange 108 = .ok (.iload 6, 2) := by decide +kernel
theorem dX8_arrange_110 : decode cX8_arrange 110 = .ok (.invokevirtual 59, 3) := by decide +kernel
theorem dX8_arrange_113 : decode cX8_arrange 113 = .ok (.aload 4, 2) := by decide +kernel
theorem dX8_arrange_115 : decode cX8_arrange 115 = .ok (.iload 6, 2) := by decide +kernel
theorem dX8_arrange_117 : decode cX8_arrange 117 = .ok (.invokevirtual 63, 3) := by decide +kernel
theorem dX8_arrange_120 : decode cX8_arrange 120 = .ok (.invokevirtual 67, 3) := by decide +kernel
theorem dX8_arrange_123 : decode cX8_arrange 123 = .ok (.pop, 1) := by decide +kernel
theorem dX8_arrange_124 : decode cX8_arrange 124 = .ok (.aload_n 0, 1) := by decide +kernel
theorem dX8_arrange_125 : decode cX8_arrange 125 = .ok (.iload_n 1, 1) := by decide +kernel
theorem dX8_arrange_126 : decode cX8_arrange 126 = .ok (.iconst 1, 1) := by decide +kernel
theorem dX8_arrange_127 : decode cX8_arrange 127 = .ok (.iadd, 1) := by decide +kernel
theorem dX8_arrange_128 : decode cX8_arrange 128 = .ok (.iload_n 2, 1) := by decide +kernel
theorem dX8_arrange_129 : decode cX8_arrange 129 = .ok (.iconst 1, 1) := by decide +kernel
theorem dX8_arrange_130 : decode cX8_arrange 130 = .ok (.iload 6, 2) := by decide +kernel
theorem dX8_arrange_132 : decode cX8_arrange 132 = .ok (.ishl, 1) := by decide +kernel
theorem dX8_arrange_133 : decode cX8_arrange 133 = .ok (.ior, 1) := by decide +kernel
theorem dX8_arrange_134 : decode cX8_arrange 134 = .ok (.invokestatic 39, 3) := by decide +kernel
theorem dX8_arrange_137 : decode cX8_arrange 137 = .ok (.iinc 6 1, 3) := by decide +kernel
theorem dX8_arrange_140 : decode cX8_arrange 140 = .ok (.goto (-71), 3) := by decide +kernel
theorem dX8_arrange_143 : decode cX8_arrange 143 = .ok (.return_, 1) := by decide +kernel
theorem dX8_take_0 : decode cX8_take 0 = .ok (.iload_n 1, 1) := by decide +kernel
theorem dX8_take_1 : decode cX8_take 1 = .ok (.ifCond .ne 13, 3) := by decide +kernel
theorem dX8_take_4 : decode cX8_take 4 = .ok (.aload_n 0, 1) := by decide +kernel
theorem dX8_take_5 : decode cX8_take 5 = .ok (.dup, 1) := by decide +kernel
theorem dX8_take_6 : decode cX8_take 6 = .ok (.getfield 22, 3) := by decide +kernel
theorem dX8_take_9 : decode cX8_take 9 = .ok (.iconst 1, 1) := by decide +kernel
theorem dX8_take_10 : decode cX8_take 10 = .ok (.iadd, 1) := by decide +kernel
theorem dX8_take_11 : decode cX8_take 11 = .ok (.putfield 22, 3) := by decide +kernel
theorem dX8_take_14 : decode cX8_take 14 = .ok (.iload_n 1, 1) := by decide +kernel
theorem dX8_take_15 : decode cX8_take 15 = .ok (.aload_n 0, 1) := by decide +kernel
theorem dX8_take_16 : decode cX8_take 16 = .ok (.getfield 18, 3) := by decide +kernel
theorem dX8_take_19 : decode cX8_take 19 = .ok (.if_icmp .ge 23, 3) := by decide +kernel
theorem dX8_take_22 : decode cX8_take 22 = .ok (.aload_n 0, 1) := by decide +kernel
theorem dX8_take_23 : decode cX8_take 23 = .ok (.iload_n 1, 1) := by decide +kernel
theorem dX8_take_24 : decode cX8_take 24 = .ok (.putfield 18, 3) := by decide +kernel
theorem dX8_take_27 : decode cX8_take 27 = .ok (.aload_n 0, 1) := by decide +kernel
theorem dX8_take_28 : decode cX8_take 28 = .ok (.getfield 9, 3) := by decide +kernel
theorem dX8_take_31 : decode cX8_take 31 = .ok (.iconst 0, 1) := by decide +kernel
theorem dX8_take_32 : decode cX8_take 32 = .ok (.aload_n 0, 1) := by decide +kernel
theorem dX8_take_33 : decode cX8_take 33 = .ok (.getfield 15, 3) := by decide +kernel
theorem dX8_take_36 : decode cX8_take 36 = .ok (.iconst 0, 1) := by decide +kernel
theorem dX8_take_37 : decode cX8_take 37 = .ok (.bipush 7, 2) := by decide +kernel
theorem dX8_take_39 : decode cX8_take 39 = .ok (.invokestatic 71, 3) := by decide +kernel
theorem dX8_take_42 : decode cX8_take 42 = .ok (.return_, 1) := by decide +kernel
