theorem dX6_init_0 : decode cX6_init 0 = .ok (.aload_n 0, 1) := by decide +kernel
theorem dX6_init_1 : decode cX6_init 1 = .ok (.invokespecial 3, 3) := by decide +kernel
theorem dX6_init_4 : decode cX6_init 4 = .ok (.aload_n 0, 1) := by decide +kernel
theorem dX6_init_5 : decode cX6_init 5 = .ok (.bipush 120, 2) := by decide +kernel
theorem dX6_init_7 : decode cX6_init 7 = .ok (.newarray .int, 2) := by decide +kernel
theorem dX6_init_9 : decode cX6_init 9 = .ok (.putfield 11, 3) := by decide +kernel
theorem dX6_init_12 : decode cX6_init 12 = .ok (.aload_n 0, 1) := by decide +kernel
theorem dX6_init_13 : decode cX6_init 13 = .ok (.iconst 0, 1) := by decide +kernel
theorem dX6_init_14 : decode cX6_init 14 = .ok (.putfield 15, 3) := by decide +kernel
theorem dX6_init_17 : decode cX6_init 17 = .ok (.aload_n 0, 1) := by decide +kernel
theorem dX6_init_18 : decode cX6_init 18 = .ok (.new 19, 3) := by decide +kernel
theorem dX6_init_21 : decode cX6_init 21 = .ok (.dup, 1) := by decide +kernel
theorem dX6_init_22 : decode cX6_init 22 = .ok (.invokespecial 21, 3) := by decide +kernel
theorem dX6_init_25 : decode cX6_init 25 = .ok (.putfield 22, 3) := by decide +kernel
theorem dX6_init_28 : decode cX6_init 28 = .ok (.aload_n 0, 1) := by decide +kernel
theorem dX6_init_29 : decode cX6_init 29 = .ok (.bipush 121, 2) := by decide +kernel
theorem dX6_init_31 : decode cX6_init 31 = .ok (.newarray .int, 2) := by decide +kernel
theorem dX6_init_33 : decode cX6_init 33 = .ok (.putfield 26, 3) := by decide +kernel
theorem dX6_init_36 : decode cX6_init 36 = .ok (.aload_n 0, 1) := by decide +kernel
theorem dX6_init_37 : decode cX6_init 37 = .ok (.bipush 6, 2) := by decide +kernel
theorem dX6_init_39 : decode cX6_init 39 = .ok (.newarray .int, 2) := by decide +kernel
theorem dX6_init_41 : decode cX6_init 41 = .ok (.putfield 29, 3) := by decide +kernel
theorem dX6_init_44 : decode cX6_init 44 = .ok (.aload_n 0, 1) := by decide +kernel
theorem dX6_init_45 : decode cX6_init 45 = .ok (.sipush 256, 3) := by decide +kernel
theorem dX6_init_48 : decode cX6_init 48 = .ok (.newarray .int, 2) := by decide +kernel
theorem dX6_init_50 : decode cX6_init 50 = .ok (.putfield 32, 3) := by decide +kernel
theorem dX6_init_53 : decode cX6_init 53 = .ok (.aload_n 0, 1) := by decide +kernel
theorem dX6_init_54 : decode cX6_init 54 = .ok (.sipush 256, 3) := by decide +kernel
theorem dX6_init_57 : decode cX6_init 57 = .ok (.newarray .int, 2) := by decide +kernel
theorem dX6_init_59 : decode cX6_init 59 = .ok (.putfield 35, 3) := by decide +kernel
theorem dX6_init_62 : decode cX6_init 62 = .ok (.aload_n 0, 1) := by decide +kernel
theorem dX6_init_63 : decode cX6_init 63 = .ok (.iconst 0, 1) := by decide +kernel
theorem dX6_init_64 : decode cX6_init 64 = .ok (.putfield 38, 3) := by decide +kernel
theorem dX6_init_67 : decode cX6_init 67 = .ok (.return_, 1) := by decide +kernel
theorem dX6_takeLetter_0 : decode cX6_takeLetter 0 = .ok (.aload_n 0, 1) := by decide +kernel
theorem dX6_takeLetter_1 : decode cX6_takeLetter 1 = .ok (.getfield 15, 3) := by decide +kernel
theorem dX6_takeLetter_4 : decode cX6_takeLetter 4 = .ok (.bipush 120, 2) := by decide +kernel
theorem dX6_takeLetter_6 : decode cX6_takeLetter 6 = .ok (.if_icmp .lt 6, 3) := by decide +kernel
theorem dX6_takeLetter_9 : decode cX6_takeLetter 9 = .ok (.bipush (-3), 2) := by decide +kernel
theorem dX6_takeLetter_11 : decode cX6_takeLetter 11 = .ok (.ireturn, 1) := by decide +kernel
theorem dX6_takeLetter_12 : decode cX6_takeLetter 12 = .ok (.aload_n 0, 1) := by decide +kernel
theorem dX6_takeLetter_13 : decode cX6_takeLetter 13 = .ok (.getfield 11, 3) := by decide +kernel
theorem dX6_takeLetter_16 : decode cX6_takeLetter 16 = .ok (.aload_n 0, 1) := by decide +kernel
theorem dX6_takeLetter_17 : decode cX6_takeLetter 17 = .ok (.getfield 15, 3) := by decide +kernel
theorem dX6_takeLetter_20 : decode cX6_takeLetter 20 = .ok (.iload_n 1, 1) := by decide +kernel
theorem dX6_takeLetter_21 : decode cX6_takeLetter 21 = .ok (.iastore, 1) := by decide +kernel
theorem dX6_takeLetter_22 : decode cX6_takeLetter 22 = .ok (.aload_n 0, 1) := by decide +kernel
theorem dX6_takeLetter_23 : decode cX6_takeLetter 23 = .ok (.dup, 1) := by decide +kernel
theorem dX6_takeLetter_24 : decode cX6_takeLetter 24 = .ok (.getfield 15, 3) := by decide +kernel
theorem dX6_takeLetter_27 : decode cX6_takeLetter 27 = .ok (.iconst 1, 1) := by decide +kernel
theorem dX6_takeLetter_28 : decode cX6_takeLetter 28 = .ok (.iadd, 1) := by decide +kernel
theorem dX6_takeLetter_29 : decode cX6_takeLetter 29 = .ok (.putfield 15, 3) := by decide +kernel
theorem dX6_takeLetter_32 : decode cX6_takeLetter 32 = .ok (.aload_n 0, 1) := by decide +kernel
theorem dX6_takeLetter_33 : decode cX6_takeLetter 33 = .ok (.getfield 15, 3) := by decide +kernel
theorem dX6_takeLetter_36 : decode cX6_takeLetter 36 = .ok (.ireturn, 1) := by decide +kernel
theorem dX6_takeText_0 : decode cX6_takeText 0 = .ok (.aload_n 0, 1) := by decide +kernel
theorem dX6_takeText_1 : decode cX6_takeText 1 = .ok (.getfield 22, 3) := by decide +kernel
theorem dX6_takeText_4 : decode cX6_takeText 4 = .ok (.aload_n 0, 1) := by decide +kernel
theorem dX6_takeText_5 : decode cX6_takeText 5 = .ok (.getfield 11, 3) := by decide +kernel
theorem dX6_takeText_8 : decode cX6_takeText 8 = .ok (.aload_n 0, 1) := by decide +kernel
theorem dX6_takeText_9 : decode cX6_takeText 9 = .ok (.getfield 15, 3) := by decide +kernel
theorem dX6_takeText_12 : decode cX6_takeText 12 = .ok (.aload_n 0, 1) := by decide +kernel
theorem dX6_takeText_13 : decode cX6_takeText 13 = .ok (.getfield 35, 3) := by decide +kernel
theorem dX6_takeText_16 : decode cX6_takeText 16 = .ok (.invokevirtual 41, 3) := by decide +kernel
theorem dX6_takeText_19 : decode cX6_takeText 19 = .ok (.istore_n 1, 1) := by decide +kernel
theorem dX6_takeText_20 : decode cX6_takeText 20 = .ok (.aload_n 0, 1) := by decide +kernel
theorem dX6_takeText_21 : decode cX6_takeText 21 = .ok (.iconst 0, 1) := by decide +kernel
theorem dX6_takeText_22 : decode cX6_takeText 22 = .ok (.putfield 15, 3) := by decide +kernel
theorem dX6_takeText_25 : decode cX6_takeText 25 = .ok (.iload_n 1, 1) := by decide +kernel
theorem dX6_takeText_26 : decode cX6_takeText 26 = .ok (.ifCond .ne 14, 3) := by decide +kernel
theorem dX6_takeText_29 : decode cX6_takeText 29 = .ok (.bipush (-100), 2) := by decide +kernel
theorem dX6_takeText_31 : decode cX6_takeText 31 = .ok (.aload_n 0, 1) := by decide +kernel
theorem dX6_takeText_32 : decode cX6_takeText 32 = .ok (.getfield 22, 3) := by decide +kernel
theorem dX6_takeText_35 : decode cX6_takeText 35 = .ok (.getfield 45, 3) := by decide +kernel
theorem dX6_takeText_38 : decode cX6_takeText 38 = .ok (.isub, 1) := by decide +kernel
theorem dX6_takeText_39 : decode cX6_takeText 39 = .ok (.ireturn, 1) := by decide +kernel
theorem dX6_takeText_40 : decode cX6_takeText 40 = .ok (.aload_n 0, 1) := by decide +kernel
theorem dX6_takeText_41 : decode cX6_takeText 41 = .ok (.getfield 32, 3) := by decide +kernel
theorem dX6_takeText_44 : decode cX6_takeText 44 = .ok (.astore_n 2, 1) := by decide +kernel
theorem dX6_takeText_45 : decode cX6_takeText 45 = .ok (.aload_n 0, 1) := by decide +kernel
theorem dX6_takeText_46 : decode cX6_takeText 46 = .ok (.aload_n 0, 1) := by decide +kernel
theorem dX6_takeText_47 : decode cX6_takeText 47 = .ok (.getfield 35, 3) := by decide +kernel
theorem dX6_takeText_50 : decode cX6_takeText 50 = .ok (.putfield 32, 3) := by decide +kernel
theorem dX6_takeText_53 : decode cX6_takeText 53 = .ok (.aload_n 0, 1) := by decide +kernel
theorem dX6_takeText_54 : decode cX6_takeText 54 = .ok (.aload_n 2, 1) := by decide +kernel
theorem dX6_takeText_55 : decode cX6_takeText 55 = .ok (.putfield 35, 3) := by decide +kernel
theorem dX6_takeText_58 : decode cX6_takeText 58 = .ok (.aload_n 0, 1) := by decide +kernel
theorem dX6_takeText_59 : decode cX6_takeText 59 = .ok (.aload_n 0, 1) := by decide +kernel
theorem dX6_takeText_60 : decode cX6_takeText 60 = .ok (.getfield 22, 3) := by decide +kernel
theorem dX6_takeText_63 : decode cX6_takeText 63 = .ok (.getfield 48, 3) := by decide +kernel
theorem dX6_takeText_66 : decode cX6_takeText 66 = .ok (.putfield 38, 3) := by decide +kernel
theorem dX6_takeText_69 : decode cX6_takeText 69 = .ok (.iconst 1, 1) := by decide +kernel
theorem dX6_takeText_70 : decode cX6_takeText 70 = .ok (.ireturn, 1) := by decide +kernel
theorem dX6_loudness_0 : decode cX6_loudness 0 = .ok (.aload_n 1, 1) := by decide +kernel
theorem dX6_loudness_1 : decode cX6_loudness 1 = .ok (.getfield 49, 3) := by decide +kernel
theorem dX6_loudness_4 : decode cX6_loudness 4 = .ok (.astore_n 3, 1) := by decide +kernel
theorem dX6_loudness_5 : decode cX6_loudness 5 = .ok (.aload_n 3, 1) := by decide +kernel
theorem dX6_loudness_6 : decode cX6_loudness 6 = .ok (.getfield 55, 3) := by decide +kernel
theorem dX6_loudness_9 : decode cX6_loudness 9 = .ok (.iload_n 2, 1) := by decide +kernel
theorem dX6_loudness_10 : decode cX6_loudness 10 = .ok (.iaload, 1) := by decide +kernel
theorem dX6_loudness_11 : decode cX6_loudness 11 = .ok (.aload_n 1, 1) := by decide +kernel
theorem dX6_loudness_12 : decode cX6_loudness 12 = .ok (.getfield 60, 3) := by decide +kernel
theorem dX6_loudness_15 : decode cX6_loudness 15 = .ok (.invokestatic 63, 3) := by decide +kernel
theorem dX6_loudness_18 : decode cX6_loudness 18 = .ok (.istore 4, 2) := by decide +kernel
theorem dX6_loudness_20 : decode cX6_loudness 20 = .ok (.aload_n 0, 1) := by decide +kernel
theorem dX6_loudness_21 : decode cX6_loudness 21 = .ok (.getfield 38, 3) := by decide +kernel
theorem dX6_loudness_24 : decode cX6_loudness 24 = .ok (.ifCond .ne 27, 3) := by decide +kernel
theorem dX6_loudness_27 : decode cX6_loudness 27 = .ok (.bipush 10, 2) := by decide +kernel
theorem dX6_loudness_29 : decode cX6_loudness 29 = .ok (.aload_n 1, 1) := by decide +kernel
theorem dX6_loudness_30 : decode cX6_loudness 30 = .ok (.getfield 67, 3) := by decide +kernel
theorem dX6_loudness_33 : decode cX6_loudness 33 = .ok (.iadd, 1) := by decide +kernel
theorem dX6_loudness_34 : decode cX6_loudness 34 = .ok (.iload 4, 2) := by decide +kernel
theorem dX6_loudness_36 : decode cX6_loudness 36 = .ok (.isub, 1) := by decide +kernel
theorem dX6_loudness_37 : decode cX6_loudness 37 = .ok (.aload_n 3, 1) := by decide +kernel
theorem dX6_loudness_38 : decode cX6_loudness 38 = .ok (.getfield 70, 3) := by decide +kernel
theorem dX6_loudness_41 : decode cX6_loudness 41 = .ok (.iload_n 2, 1) := by decide +kernel
theorem dX6_loudness_42 : decode cX6_loudness 42 = .ok (.iaload, 1) := by decide +kernel
theorem dX6_loudness_43 : decode cX6_loudness 43 = .ok (.iconst 2, 1) := by decide +kernel
theorem dX6_loudness_44 : decode cX6_loudness 44 = .ok (.idiv, 1) := by decide +kernel
theorem dX6_loudness_45 : decode cX6_loudness 45 = .ok (.isub, 1) := by decide +kernel
theorem dX6_loudness_46 : decode cX6_loudness 46 = .ok (.istore 5, 2) := by decide +kernel
theorem dX6_loudness_48 : decode cX6_loudness 48 = .ok (.goto 73, 3) := by decide +kernel
theorem dX6_loudness_51 : decode cX6_loudness 51 = .ok (.aload_n 0, 1) := by decide +kernel
theorem dX6_loudness_52 : decode cX6_loudness 52 = .ok (.getfield 29, 3) := by decide +kernel
theorem dX6_loudness_55 : decode cX6_loudness 55 = .ok (.iconst 0, 1) := by decide +kernel
theorem dX6_loudness_56 : decode cX6_loudness 56 = .ok (.aload_n 3, 1) := by decide +kernel
theorem dX6_loudness_57 : decode cX6_loudness 57 = .ok (.getfield 70, 3) := by decide +kernel
theorem dX6_loudness_60 : decode cX6_loudness 60 = .ok (.iload_n 2, 1) := by decide +kernel
theorem dX6_loudness_61 : decode cX6_loudness 61 = .ok (.iaload, 1) := by decide +kernel
theorem dX6_loudness_62 : decode cX6_loudness 62 = .ok (.iastore, 1) := by decide +kernel
theorem dX6_loudness_63 : decode cX6_loudness 63 = .ok (.aload_n 0, 1) := by decide +kernel
theorem dX6_loudness_64 : decode cX6_loudness 64 = .ok (.getfield 29, 3) := by decide +kernel
theorem dX6_loudness_67 : decode cX6_loudness 67 = .ok (.iconst 1, 1) := by decide +kernel
theorem dX6_loudness_68 : decode cX6_loudness 68 = .ok (.aload_n 1, 1) := by decide +kernel
theorem dX6_loudness_69 : decode cX6_loudness 69 = .ok (.getfield 73, 3) := by decide +kernel
theorem dX6_loudness_72 : decode cX6_loudness 72 = .ok (.iload_n 2, 1) := by decide +kernel
theorem dX6_loudness_73 : decode cX6_loudness 73 = .ok (.iaload, 1) := by decide +kernel
theorem dX6_loudness_74 : decode cX6_loudness 74 = .ok (.iastore, 1) := by decide +kernel
theorem dX6_loudness_75 : decode cX6_loudness 75 = .ok (.aload_n 0, 1) := by decide +kernel
theorem dX6_loudness_76 : decode cX6_loudness 76 = .ok (.getfield 29, 3) := by decide +kernel
theorem dX6_loudness_79 : decode cX6_loudness 79 = .ok (.iconst 2, 1) := by decide +kernel
theorem dX6_loudness_80 : decode cX6_loudness 80 = .ok (.iload 4, 2) := by decide +kernel
theorem dX6_loudness_82 : decode cX6_loudness 82 = .ok (.iastore, 1) := by decide +kernel
theorem dX6_loudness_83 : decode cX6_loudness 83 = .ok (.aload_n 0, 1) := by decide +kernel
theorem dX6_loudness_84 : decode cX6_loudness 84 = .ok (.getfield 29, 3) := by decide +kernel
theorem dX6_loudness_87 : decode cX6_loudness 87 = .ok (.iconst 3, 1) := by decide +kernel
theorem dX6_loudness_88 : decode cX6_loudness 88 = .ok (.aload_n 1, 1) := by decide +kernel
theorem dX6_loudness_89 : decode cX6_loudness 89 = .ok (.getfield 76, 3) := by decide +kernel
theorem dX6_loudness_92 : decode cX6_loudness 92 = .ok (.iastore, 1) := by decide +kernel
theorem dX6_loudness_93 : decode cX6_loudness 93 = .ok (.aload_n 0, 1) := by decide +kernel
theorem dX6_loudness_94 : decode cX6_loudness 94 = .ok (.getfield 29, 3) := by decide +kernel
theorem dX6_loudness_97 : decode cX6_loudness 97 = .ok (.iconst 4, 1) := by decide +kernel
theorem dX6_loudness_98 : decode cX6_loudness 98 = .ok (.aload_n 1, 1) := by decide +kernel
theorem dX6_loudness_99 : decode cX6_loudness 99 = .ok (.getfield 67, 3) := by decide +kernel
theorem dX6_loudness_102 : decode cX6_loudness 102 = .ok (.iastore, 1) := by decide +kernel
theorem dX6_loudness_103 : decode cX6_loudness 103 = .ok (.aload_n 0, 1) := by decide +kernel
theorem dX6_loudness_104 : decode cX6_loudness 104 = .ok (.getfield 29, 3) := by decide +kernel
theorem dX6_loudness_107 : decode cX6_loudness 107 = .ok (.iconst 5, 1) := by decide +kernel
theorem dX6_loudness_108 : decode cX6_loudness 108 = .ok (.aload_n 3, 1) := by decide +kernel
theorem dX6_loudness_109 : decode cX6_loudness 109 = .ok (.getfield 79, 3) := by decide +kernel
theorem dX6_loudness_112 : decode cX6_loudness 112 = .ok (.iload_n 2, 1) := by decide +kernel
theorem dX6_loudness_113 : decode cX6_loudness 113 = .ok (.iaload, 1) := by decide +kernel
theorem dX6_loudness_114 : decode cX6_loudness 114 = .ok (.iastore, 1) := by decide +kernel
theorem dX6_loudness_115 : decode cX6_loudness 115 = .ok (.aload_n 0, 1) := by decide +kernel
theorem dX6_loudness_116 : decode cX6_loudness 116 = .ok (.invokevirtual 82, 3) := by decide +kernel
theorem dX6_loudness_119 : decode cX6_loudness 119 = .ok (.istore 5, 2) := by decide +kernel
theorem dX6_loudness_121 : decode cX6_loudness 121 = .ok (.iconst 0, 1) := by decide +kernel
theorem dX6_loudness_122 : decode cX6_loudness 122 = .ok (.bipush 99, 2) := by decide +kernel
theorem dX6_loudness_124 : decode cX6_loudness 124 = .ok (.iload 5, 2) := by decide +kernel
theorem dX6_loudness_126 : decode cX6_loudness 126 = .ok (.invokestatic 86, 3) := by decide +kernel
theorem dX6_loudness_129 : decode cX6_loudness 129 = .ok (.invokestatic 91, 3) := by decide +kernel
theorem dX6_loudness_132 : decode cX6_loudness 132 = .ok (.ireturn, 1) := by decide +kernel
theorem dX6_worth_0 : decode cX6_worth 0 = .ok (.iconst 0, 1) := by decide +kernel
theorem dX6_worth_1 : decode cX6_worth 1 = .ok (.istore_n 1, 1) := by decide +kernel
theorem dX6_worth_2 : decode cX6_worth 2 = .ok (.iconst 0, 1) := by decide +kernel
theorem dX6_worth_3 : decode cX6_worth 3 = .ok (.istore_n 2, 1) := by decide +kernel
theorem dX6_worth_4 : decode cX6_worth 4 = .ok (.iload_n 2, 1) := by decide +kernel
theorem dX6_worth_5 : decode cX6_worth 5 = .ok (.aload_n 0, 1) := by decide +kernel
theorem dX6_worth_6 : decode cX6_worth 6 = .ok (.getfield 38, 3) := by decide +kernel
theorem dX6_worth_9 : decode cX6_worth 9 = .ok (.if_icmp .ge 239, 3) := by decide +kernel
theorem dX6_worth_12 : decode cX6_worth 12 = .ok (.aload_n 0, 1) := by decide +kernel
theorem dX6_worth_13 : decode cX6_worth 13 = .ok (.getfield 32, 3) := by decide +kernel
theorem dX6_worth_16 : decode cX6_worth 16 = .ok (.iload_n 2, 1) := by decide +kernel
theorem dX6_worth_17 : decode cX6_worth 17 = .ok (.iaload, 1) := by decide +kernel
theorem dX6_worth_18 : decode cX6_worth 18 = .ok (.istore_n 3, 1) := by decide +kernel
theorem dX6_worth_19 : decode cX6_worth 19 = .ok (.iload_n 3, 1) := by decide +kernel
theorem dX6_worth_20 : decode cX6_worth 20 = .ok (.ifCond .lt 50, 3) := by decide +kernel
theorem dX6_worth_23 : decode cX6_worth 23 = .ok (.iload_n 1, 1) := by decide +kernel
theorem dX6_worth_24 : decode cX6_worth 24 = .ok (.aload_n 0, 1) := by decide +kernel
theorem dX6_worth_25 : decode cX6_worth 25 = .ok (.getfield 26, 3) := by decide +kernel
theorem dX6_worth_28 : decode cX6_worth 28 = .ok (.arraylength, 1) := by decide +kernel
theorem dX6_worth_29 : decode cX6_worth 29 = .ok (.if_icmp .lt 5, 3) := by decide +kernel
theorem dX6_worth_32 : decode cX6_worth 32 = .ok (.iconst 0, 1) := by decide +kernel
theorem dX6_worth_33 : decode cX6_worth 33 = .ok (.ireturn, 1) := by decide +kernel
theorem dX6_worth_34 : decode cX6_worth 34 = .ok (.aload_n 0, 1) := by decide +kernel
theorem dX6_worth_35 : decode cX6_worth 35 = .ok (.getfield 26, 3) := by decide +kernel
theorem dX6_worth_38 : decode cX6_worth 38 = .ok (.iload_n 1, 1) := by decide +kernel
theorem dX6_worth_39 : decode cX6_worth 39 = .ok (.iload_n 3, 1) := by decide +kernel
theorem dX6_worth_40 : decode cX6_worth 40 = .ok (.sipush 10000, 3) := by decide +kernel
theorem dX6_worth_43 : decode cX6_worth 43 = .ok (.if_icmp .ge 7, 3) := by decide +kernel
theorem dX6_worth_46 : decode cX6_worth 46 = .ok (.iload_n 3, 1) := by decide +kernel
theorem dX6_worth_47 : decode cX6_worth 47 = .ok (.goto 16, 3) := by decide +kernel
theorem dX6_worth_50 : decode cX6_worth 50 = .ok (.aload_n 0, 1) := by decide +kernel
theorem dX6_worth_51 : decode cX6_worth 51 = .ok (.getfield 29, 3) := by decide +kernel
theorem dX6_worth_54 : decode cX6_worth 54 = .ok (.iload_n 3, 1) := by decide +kernel
theorem dX6_worth_55 : decode cX6_worth 55 = .ok (.sipush 10000, 3) := by decide +kernel
theorem dX6_worth_58 : decode cX6_worth 58 = .ok (.isub, 1) := by decide +kernel
theorem dX6_worth_59 : decode cX6_worth 59 = .ok (.bipush 6, 2) := by decide +kernel
theorem dX6_worth_61 : decode cX6_worth 61 = .ok (.irem, 1) := by decide +kernel
theorem dX6_worth_62 : decode cX6_worth 62 = .ok (.iaload, 1) := by decide +kernel
theorem dX6_worth_63 : decode cX6_worth 63 = .ok (.iastore, 1) := by decide +kernel
theorem dX6_worth_64 : decode cX6_worth 64 = .ok (.iinc 1 1, 3) := by decide +kernel
theorem dX6_worth_67 : decode cX6_worth 67 = .ok (.goto 175, 3) := by decide +kernel
theorem dX6_worth_70 : decode cX6_worth 70 = .ok (.iload_n 1, 1) := by decide +kernel
theorem dX6_worth_71 : decode cX6_worth 71 = .ok (.iconst 1, 1) := by decide +kernel
theorem dX6_worth_72 : decode cX6_worth 72 = .ok (.if_icmp .ge 5, 3) := by decide +kernel
theorem dX6_worth_75 : decode cX6_worth 75 = .ok (.iconst 0, 1) := by decide +kernel
theorem dX6_worth_76 : decode cX6_worth 76 = .ok (.ireturn, 1) := by decide +kernel
theorem dX6_worth_77 : decode cX6_worth 77 = .ok (.iload_n 3, 1) := by decide +kernel
theorem dX6_worth_78 : decode cX6_worth 78 = .ok (.bipush (-59), 2) := by decide +kernel
theorem dX6_worth_80 : decode cX6_worth 80 = .ok (.if_icmp .ne 12, 3) := by decide +kernel
theorem dX6_worth_83 : decode cX6_worth 83 = .ok (.aload_n 0, 1) := by decide +kernel
theorem dX6_worth_84 : decode cX6_worth 84 = .ok (.getfield 26, 3) := by decide +kernel
theorem dX6_worth_87 : decode cX6_worth 87 = .ok (.iload_n 1, 1) := by decide +kernel
theorem dX6_worth_88 : decode cX6_worth 88 = .ok (.iconst 1, 1) := by decide +kernel
theorem dX6_worth_89 : decode cX6_worth 89 = .ok (.isub, 1) := by decide +kernel
theorem dX6_worth_90 : decode cX6_worth 90 = .ok (.iaload, 1) := by decide +kernel
theorem dX6_worth_91 : decode cX6_worth 91 = .ok (.ireturn, 1) := by decide +kernel
theorem dX6_worth_92 : decode cX6_worth 92 = .ok (.iload_n 3, 1) := by decide +kernel
theorem dX6_worth_93 : decode cX6_worth 93 = .ok (.bipush (-63), 2) := by decide +kernel
theorem dX6_worth_95 : decode cX6_worth 95 = .ok (.if_icmp .ne 51, 3) := by decide +kernel
theorem dX6_worth_98 : decode cX6_worth 98 = .ok (.iinc 1 (-1), 3) := by decide +kernel
theorem dX6_worth_101 : decode cX6_worth 101 = .ok (.aload_n 0, 1) := by decide +kernel
theorem dX6_worth_102 : decode cX6_worth 102 = .ok (.getfield 26, 3) := by decide +kernel
theorem dX6_worth_105 : decode cX6_worth 105 = .ok (.iload_n 1, 1) := by decide +kernel
theorem dX6_worth_106 : decode cX6_worth 106 = .ok (.iaload, 1) := by decide +kernel
theorem dX6_worth_107 : decode cX6_worth 107 = .ok (.ifCond .ne 13, 3) := by decide +kernel
theorem dX6_worth_110 : decode cX6_worth 110 = .ok (.iload_n 2, 1) := by decide +kernel
theorem dX6_worth_111 : decode cX6_worth 111 = .ok (.iconst 1, 1) := by decide +kernel
theorem dX6_worth_112 : decode cX6_worth 112 = .ok (.iadd, 1) := by decide +kernel
theorem dX6_worth_113 : decode cX6_worth 113 = .ok (.aload_n 0, 1) := by decide +kernel
theorem dX6_worth_114 : decode cX6_worth 114 = .ok (.getfield 38, 3) := by decide +kernel
theorem dX6_worth_117 : decode cX6_worth 117 = .ok (.if_icmp .lt 9, 3) := by decide +kernel
theorem dX6_worth_120 : decode cX6_worth 120 = .ok (.iload_n 2, 1) := by decide +kernel
theorem dX6_worth_121 : decode cX6_worth 121 = .ok (.iconst 1, 1) := by decide +kernel
theorem dX6_worth_122 : decode cX6_worth 122 = .ok (.iadd, 1) := by decide +kernel
theorem dX6_worth_123 : decode cX6_worth 123 = .ok (.goto 19, 3) := by decide +kernel
theorem dX6_worth_126 : decode cX6_worth 126 = .ok (.iload_n 2, 1) := by decide +kernel
theorem dX6_worth_127 : decode cX6_worth 127 = .ok (.iconst 1, 1) := by decide +kernel
theorem dX6_worth_128 : decode cX6_worth 128 = .ok (.iadd, 1) := by decide +kernel
theorem dX6_worth_129 : decode cX6_worth 129 = .ok (.aload_n 0, 1) := by decide +kernel
theorem dX6_worth_130 : decode cX6_worth 130 = .ok (.getfield 32, 3) := by decide +kernel
theorem dX6_worth_133 : decode cX6_worth 133 = .ok (.iload_n 2, 1) := by decide +kernel
theorem dX6_worth_134 : decode cX6_worth 134 = .ok (.iconst 1, 1) := by decide +kernel
theorem dX6_worth_135 : decode cX6_worth 135 = .ok (.iadd, 1) := by decide +kernel
theorem dX6_worth_136 : decode cX6_worth 136 = .ok (.iaload, 1) := by decide +kernel
theorem dX6_worth_137 : decode cX6_worth 137 = .ok (.iconst 1, 1) := by decide +kernel
theorem dX6_worth_138 : decode cX6_worth 138 = .ok (.isub, 1) := by decide +kernel
theorem dX6_worth_139 : decode cX6_worth 139 = .ok (.invokestatic 91, 3) := by decide +kernel
theorem dX6_worth_142 : decode cX6_worth 142 = .ok (.istore_n 2, 1) := by decide +kernel
theorem dX6_worth_143 : decode cX6_worth 143 = .ok (.goto 99, 3) := by decide +kernel
theorem dX6_worth_146 : decode cX6_worth 146 = .ok (.iload_n 3, 1) := by decide +kernel
theorem dX6_worth_147 : decode cX6_worth 147 = .ok (.bipush (-33), 2) := by decide +kernel
theorem dX6_worth_149 : decode cX6_worth 149 = .ok (.if_icmp .ne 30, 3) := by decide +kernel
theorem dX6_worth_152 : decode cX6_worth 152 = .ok (.aload_n 0, 1) := by decide +kernel
theorem dX6_worth_153 : decode cX6_worth 153 = .ok (.getfield 26, 3) := by decide +kernel
theorem dX6_worth_156 : decode cX6_worth 156 = .ok (.iload_n 1, 1) := by decide +kernel
theorem dX6_worth_157 : decode cX6_worth 157 = .ok (.iconst 1, 1) := by decide +kernel
theorem dX6_worth_158 : decode cX6_worth 158 = .ok (.isub, 1) := by decide +kernel
theorem dX6_worth_159 : decode cX6_worth 159 = .ok (.aload_n 0, 1) := by decide +kernel
theorem dX6_worth_160 : decode cX6_worth 160 = .ok (.getfield 26, 3) := by decide +kernel
theorem dX6_worth_163 : decode cX6_worth 163 = .ok (.iload_n 1, 1) := by decide +kernel
theorem dX6_worth_164 : decode cX6_worth 164 = .ok (.iconst 1, 1) := by decide +kernel
theorem dX6_worth_165 : decode cX6_worth 165 = .ok (.isub, 1) := by decide +kernel
theorem dX6_worth_166 : decode cX6_worth 166 = .ok (.iaload, 1) := by decide +kernel
theorem dX6_worth_167 : decode cX6_worth 167 = .ok (.ifCond .ne 7, 3) := by decide +kernel
theorem dX6_worth_170 : decode cX6_worth 170 = .ok (.iconst 1, 1) := by decide +kernel
theorem dX6_worth_171 : decode cX6_worth 171 = .ok (.goto 4, 3) := by decide +kernel
theorem dX6_worth_174 : decode cX6_worth 174 = .ok (.iconst 0, 1) := by decide +kernel
theorem dX6_worth_175 : decode cX6_worth 175 = .ok (.iastore, 1) := by decide +kernel
theorem dX6_worth_176 : decode cX6_worth 176 = .ok (.goto 66, 3) := by decide +kernel
theorem dX6_worth_179 : decode cX6_worth 179 = .ok (.iload_n 3, 1) := by decide +kernel
theorem dX6_worth_180 : decode cX6_worth 180 = .ok (.bipush (-126), 2) := by decide +kernel
theorem dX6_worth_182 : decode cX6_worth 182 = .ok (.if_icmp .ne 23, 3) := by decide +kernel
theorem dX6_worth_185 : decode cX6_worth 185 = .ok (.aload_n 0, 1) := by decide +kernel
theorem dX6_worth_186 : decode cX6_worth 186 = .ok (.getfield 26, 3) := by decide +kernel
theorem dX6_worth_189 : decode cX6_worth 189 = .ok (.iload_n 1, 1) := by decide +kernel
theorem dX6_worth_190 : decode cX6_worth 190 = .ok (.iconst 1, 1) := by decide +kernel
theorem dX6_worth_191 : decode cX6_worth 191 = .ok (.isub, 1) := by decide +kernel
theorem dX6_worth_192 : decode cX6_worth 192 = .ok (.aload_n 0, 1) := by decide +kernel
theorem dX6_worth_193 : decode cX6_worth 193 = .ok (.getfield 26, 3) := by decide +kernel
theorem dX6_worth_196 : decode cX6_worth 196 = .ok (.iload_n 1, 1) := by decide +kernel
theorem dX6_worth_197 : decode cX6_worth 197 = .ok (.iconst 1, 1) := by decide +kernel
theorem dX6_worth_198 : decode cX6_worth 198 = .ok (.isub, 1) := by decide +kernel
theorem dX6_worth_199 : decode cX6_worth 199 = .ok (.iaload, 1) := by decide +kernel
theorem dX6_worth_200 : decode cX6_worth 200 = .ok (.ineg, 1) := by decide +kernel
theorem dX6_worth_201 : decode cX6_worth 201 = .ok (.iastore, 1) := by decide +kernel
theorem dX6_worth_202 : decode cX6_worth 202 = .ok (.goto 40, 3) := by decide +kernel
theorem dX6_worth_205 : decode cX6_worth 205 = .ok (.iload_n 1, 1) := by decide +kernel
theorem dX6_worth_206 : decode cX6_worth 206 = .ok (.iconst 2, 1) := by decide +kernel
theorem dX6_worth_207 : decode cX6_worth 207 = .ok (.if_icmp .ge 5, 3) := by decide +kernel
theorem dX6_worth_210 : decode cX6_worth 210 = .ok (.iconst 0, 1) := by decide +kernel
theorem dX6_worth_211 : decode cX6_worth 211 = .ok (.ireturn, 1) := by decide +kernel
theorem dX6_worth_212 : decode cX6_worth 212 = .ok (.iinc 1 (-1), 3) := by decide +kernel
theorem dX6_worth_215 : decode cX6_worth 215 = .ok (.aload_n 0, 1) := by decide +kernel
theorem dX6_worth_216 : decode cX6_worth 216 = .ok (.getfield 26, 3) := by decide +kernel
theorem dX6_worth_219 : decode cX6_worth 219 = .ok (.iload_n 1, 1) := by decide +kernel
theorem dX6_worth_220 : decode cX6_worth 220 = .ok (.iconst 1, 1) := by decide +kernel
theorem dX6_worth_221 : decode cX6_worth 221 = .ok (.isub, 1) := by decide +kernel
theorem dX6_worth_222 : decode cX6_worth 222 = .ok (.iload_n 3, 1) := by decide +kernel
theorem dX6_worth_223 : decode cX6_worth 223 = .ok (.ineg, 1) := by decide +kernel
theorem dX6_worth_224 : decode cX6_worth 224 = .ok (.aload_n 0, 1) := by decide +kernel
theorem dX6_worth_225 : decode cX6_worth 225 = .ok (.getfield 26, 3) := by decide +kernel
theorem dX6_worth_228 : decode cX6_worth 228 = .ok (.iload_n 1, 1) := by decide +kernel
theorem dX6_worth_229 : decode cX6_worth 229 = .ok (.iconst 1, 1) := by decide +kernel
theorem dX6_worth_230 : decode cX6_worth 230 = .ok (.isub, 1) := by decide +kernel
theorem dX6_worth_231 : decode cX6_worth 231 = .ok (.iaload, 1) := by decide +kernel
theorem dX6_worth_232 : decode cX6_worth 232 = .ok (.aload_n 0, 1) := by decide +kernel
theorem dX6_worth_233 : decode cX6_worth 233 = .ok (.getfield 26, 3) := by decide +kernel
theorem dX6_worth_236 : decode cX6_worth 236 = .ok (.iload_n 1, 1) := by decide +kernel
theorem dX6_worth_237 : decode cX6_worth 237 = .ok (.iaload, 1) := by decide +kernel
theorem dX6_worth_238 : decode cX6_worth 238 = .ok (.invokestatic 94, 3) := by decide +kernel
theorem dX6_worth_241 : decode cX6_worth 241 = .ok (.iastore, 1) := by decide +kernel
theorem dX6_worth_242 : decode cX6_worth 242 = .ok (.iinc 2 1, 3) := by decide +kernel
theorem dX6_worth_245 : decode cX6_worth 245 = .ok (.goto (-241), 3) := by decide +kernel
theorem dX6_worth_248 : decode cX6_worth 248 = .ok (.iconst 0, 1) := by decide +kernel
theorem dX6_worth_249 : decode cX6_worth 249 = .ok (.ireturn, 1) := by decide +kernel
theorem dX6_joined_0 : decode cX6_joined 0 = .ok (.iload_n 0, 1) := by decide +kernel
theorem dX6_joined_1 : decode cX6_joined 1 = .ok (.lookupswitch 168 #[(38, 97), (42, 152), (43, 144), (45, 148), (47, 156), (60, 111), (61, 122), (62, 133), (124, 83)], 83) := by decide +kernel
theorem dX6_joined_84 : decode cX6_joined 84 = .ok (.iload_n 1, 1) := by decide +kernel
theorem dX6_joined_85 : decode cX6_joined 85 = .ok (.ifCond .ne 7, 3) := by decide +kernel
theorem dX6_joined_88 : decode cX6_joined 88 = .ok (.iload_n 2, 1) := by decide +kernel
theorem dX6_joined_89 : decode cX6_joined 89 = .ok (.ifCond .eq 7, 3) := by decide +kernel
theorem dX6_joined_92 : decode cX6_joined 92 = .ok (.iconst 1, 1) := by decide +kernel
theorem dX6_joined_93 : decode cX6_joined 93 = .ok (.goto 4, 3) := by decide +kernel
theorem dX6_joined_96 : decode cX6_joined 96 = .ok (.iconst 0, 1) := by decide +kernel
theorem dX6_joined_97 : decode cX6_joined 97 = .ok (.ireturn, 1) := by decide +kernel
theorem dX6_joined_98 : decode cX6_joined 98 = .ok (.iload_n 1, 1) := by decide +kernel
theorem dX6_joined_99 : decode cX6_joined 99 = .ok (.ifCond .eq 11, 3) := by decide +kernel
theorem dX6_joined_102 : decode cX6_joined 102 = .ok (.iload_n 2, 1) := by decide +kernel
theorem dX6_joined_103 : decode cX6_joined 103 = .ok (.ifCond .eq 7, 3) := by decide +kernel
theorem dX6_joined_106 : decode cX6_joined 106 = .ok (.iconst 1, 1) := by decide +kernel
theorem dX6_joined_107 : decode cX6_joined 107 = .ok (.goto 4, 3) := by decide +kernel
theorem dX6_joined_110 : decode cX6_joined 110 = .ok (.iconst 0, 1) := by decide +kernel
theorem dX6_joined_111 : decode cX6_joined 111 = .ok (.ireturn, 1) := by decide +kernel
theorem dX6_joined_112 : decode cX6_joined 112 = .ok (.iload_n 1, 1) := by decide +kernel
theorem dX6_joined_113 : decode cX6_joined 113 = .ok (.iload_n 2, 1) := by decide +kernel
theorem dX6_joined_114 : decode cX6_joined 114 = .ok (.if_icmp .ge 7, 3) := by decide +kernel
theorem dX6_joined_117 : decode cX6_joined 117 = .ok (.iconst 1, 1) := by decide +kernel
theorem dX6_joined_118 : decode cX6_joined 118 = .ok (.goto 4, 3) := by decide +kernel
theorem dX6_joined_121 : decode cX6_joined 121 = .ok (.iconst 0, 1) := by decide +kernel
theorem dX6_joined_122 : decode cX6_joined 122 = .ok (.ireturn, 1) := by decide +kernel
theorem dX6_joined_123 : decode cX6_joined 123 = .ok (.iload_n 1, 1) := by decide +kernel
theorem dX6_joined_124 : decode cX6_joined 124 = .ok (.iload_n 2, 1) := by decide +kernel
theorem dX6_joined_125 : decode cX6_joined 125 = .ok (.if_icmp .ne 7, 3) := by decide +kernel
theorem dX6_joined_128 : decode cX6_joined 128 = .ok (.iconst 1, 1) := by decide +kernel
theorem dX6_joined_129 : decode cX6_joined 129 = .ok (.goto 4, 3) := by decide +kernel
theorem dX6_joined_132 : decode cX6_joined 132 = .ok (.iconst 0, 1) := by decide +kernel
theorem dX6_joined_133 : decode cX6_joined 133 = .ok (.ireturn, 1) := by decide +kernel
theorem dX6_joined_134 : decode cX6_joined 134 = .ok (.iload_n 1, 1) := by decide +kernel
theorem dX6_joined_135 : decode cX6_joined 135 = .ok (.iload_n 2, 1) := by decide +kernel
theorem dX6_joined_136 : decode cX6_joined 136 = .ok (.if_icmp .le 7, 3) := by decide +kernel
theorem dX6_joined_139 : decode cX6_joined 139 = .ok (.iconst 1, 1) := by decide +kernel
theorem dX6_joined_140 : decode cX6_joined 140 = .ok (.goto 4, 3) := by decide +kernel
theorem dX6_joined_143 : decode cX6_joined 143 = .ok (.iconst 0, 1) := by decide +kernel
theorem dX6_joined_144 : decode cX6_joined 144 = .ok (.ireturn, 1) := by decide +kernel
theorem dX6_joined_145 : decode cX6_joined 145 = .ok (.iload_n 1, 1) := by decide +kernel
theorem dX6_joined_146 : decode cX6_joined 146 = .ok (.iload_n 2, 1) := by decide +kernel
theorem dX6_joined_147 : decode cX6_joined 147 = .ok (.iadd, 1) := by decide +kernel
theorem dX6_joined_148 : decode cX6_joined 148 = .ok (.ireturn, 1) := by decide +kernel
theorem dX6_joined_149 : decode cX6_joined 149 = .ok (.iload_n 1, 1) := by decide +kernel
theorem dX6_joined_150 : decode cX6_joined 150 = .ok (.iload_n 2, 1) := by decide +kernel
theorem dX6_joined_151 : decode cX6_joined 151 = .ok (.isub, 1) := by decide +kernel
theorem dX6_joined_152 : decode cX6_joined 152 = .ok (.ireturn, 1) := by decide +kernel
theorem dX6_joined_153 : decode cX6_joined 153 = .ok (.iload_n 1, 1) := by decide +kernel
theorem dX6_joined_154 : decode cX6_joined 154 = .ok (.iload_n 2, 1) := by decide +kernel
theorem dX6_joined_155 : decode cX6_joined 155 = .ok (.imul, 1) := by decide +kernel
theorem dX6_joined_156 : decode cX6_joined 156 = .ok (.ireturn, 1) := by decide +kernel
theorem dX6_joined_157 : decode cX6_joined 157 = .ok (.iload_n 2, 1) := by decide +kernel
theorem dX6_joined_158 : decode cX6_joined 158 = .ok (.ifCond .ne 7, 3) := by decide +kernel
theorem dX6_joined_161 : decode cX6_joined 161 = .ok (.iconst 0, 1) := by decide +kernel
theorem dX6_joined_162 : decode cX6_joined 162 = .ok (.goto 6, 3) := by decide +kernel
theorem dX6_joined_165 : decode cX6_joined 165 = .ok (.iload_n 1, 1) := by decide +kernel
theorem dX6_joined_166 : decode cX6_joined 166 = .ok (.iload_n 2, 1) := by decide +kernel
theorem dX6_joined_167 : decode cX6_joined 167 = .ok (.idiv, 1) := by decide +kernel
theorem dX6_joined_168 : decode cX6_joined 168 = .ok (.ireturn, 1) := by decide +kernel
theorem dX6_joined_169 : decode cX6_joined 169 = .ok (.iload_n 2, 1) := by decide +kernel
theorem dX6_joined_170 : decode cX6_joined 170 = .ok (.ifCond .ne 7, 3) := by decide +kernel
theorem dX6_joined_173 : decode cX6_joined 173 = .ok (.iconst 0, 1) := by decide +kernel
theorem dX6_joined_174 : decode cX6_joined 174 = .ok (.goto 6, 3) := by decide +kernel
theorem dX6_joined_177 : decode cX6_joined 177 = .ok (.iload_n 1, 1) := by decide +kernel
theorem dX6_joined_178 : decode cX6_joined 178 = .ok (.iload_n 2, 1) := by decide +kernel
theorem dX6_joined_179 : decode cX6_joined 179 = .ok (.irem, 1) := by decide +kernel
theorem dX6_joined_180 : decode cX6_joined 180 = .ok (.ireturn, 1) := by decide +kernel
