theorem dX4_init_0 : decode cX4_init 0 = .ok (.aload_n 0, 1) := by decide +kernel
theorem dX4_init_1 : decode cX4_init 1 = .ok (.invokespecial 3, 3) := by decide +kernel
theorem dX4_init_4 : decode cX4_init 4 = .ok (.aload_n 0, 1) := by decide +kernel
theorem dX4_init_5 : decode cX4_init 5 = .ok (.bipush 12, 2) := by decide +kernel
theorem dX4_init_7 : decode cX4_init 7 = .ok (.newarray .int, 2) := by decide +kernel
theorem dX4_init_9 : decode cX4_init 9 = .ok (.putfield 9, 3) := by decide +kernel
theorem dX4_init_12 : decode cX4_init 12 = .ok (.aload_n 0, 1) := by decide +kernel
theorem dX4_init_13 : decode cX4_init 13 = .ok (.iconst 0, 1) := by decide +kernel
theorem dX4_init_14 : decode cX4_init 14 = .ok (.putfield 15, 3) := by decide +kernel
theorem dX4_init_17 : decode cX4_init 17 = .ok (.aload_n 0, 1) := by decide +kernel
theorem dX4_init_18 : decode cX4_init 18 = .ok (.iconst 0, 1) := by decide +kernel
theorem dX4_init_19 : decode cX4_init 19 = .ok (.putfield 19, 3) := by decide +kernel
theorem dX4_init_22 : decode cX4_init 22 = .ok (.aload_n 0, 1) := by decide +kernel
theorem dX4_init_23 : decode cX4_init 23 = .ok (.bipush (-2), 2) := by decide +kernel
theorem dX4_init_25 : decode cX4_init 25 = .ok (.putfield 22, 3) := by decide +kernel
theorem dX4_init_28 : decode cX4_init 28 = .ok (.aload_n 0, 1) := by decide +kernel
theorem dX4_init_29 : decode cX4_init 29 = .ok (.bipush (-2), 2) := by decide +kernel
theorem dX4_init_31 : decode cX4_init 31 = .ok (.putfield 25, 3) := by decide +kernel
theorem dX4_init_34 : decode cX4_init 34 = .ok (.aload_n 0, 1) := by decide +kernel
theorem dX4_init_35 : decode cX4_init 35 = .ok (.iconst 0, 1) := by decide +kernel
theorem dX4_init_36 : decode cX4_init 36 = .ok (.putfield 28, 3) := by decide +kernel
theorem dX4_init_39 : decode cX4_init 39 = .ok (.aload_n 0, 1) := by decide +kernel
theorem dX4_init_40 : decode cX4_init 40 = .ok (.aload_n 1, 1) := by decide +kernel
theorem dX4_init_41 : decode cX4_init 41 = .ok (.putfield 31, 3) := by decide +kernel
theorem dX4_init_44 : decode cX4_init 44 = .ok (.aload_n 0, 1) := by decide +kernel
theorem dX4_init_45 : decode cX4_init 45 = .ok (.aload_n 2, 1) := by decide +kernel
theorem dX4_init_46 : decode cX4_init 46 = .ok (.putfield 35, 3) := by decide +kernel
theorem dX4_init_49 : decode cX4_init 49 = .ok (.aload_n 0, 1) := by decide +kernel
theorem dX4_init_50 : decode cX4_init 50 = .ok (.aload_n 3, 1) := by decide +kernel
theorem dX4_init_51 : decode cX4_init 51 = .ok (.putfield 39, 3) := by decide +kernel
theorem dX4_init_54 : decode cX4_init 54 = .ok (.return_, 1) := by decide +kernel
theorem dX4_listen_0 : decode cX4_listen 0 = .ok (.aload_n 0, 1) := by decide +kernel
theorem dX4_listen_1 : decode cX4_listen 1 = .ok (.bipush 12, 2) := by decide +kernel
theorem dX4_listen_3 : decode cX4_listen 3 = .ok (.aload_n 2, 1) := by decide +kernel
theorem dX4_listen_4 : decode cX4_listen 4 = .ok (.iload_n 3, 1) := by decide +kernel
theorem dX4_listen_5 : decode cX4_listen 5 = .ok (.invokevirtual 43, 3) := by decide +kernel
theorem dX4_listen_8 : decode cX4_listen 8 = .ok (.invokestatic 49, 3) := by decide +kernel
theorem dX4_listen_11 : decode cX4_listen 11 = .ok (.putfield 15, 3) := by decide +kernel
theorem dX4_listen_14 : decode cX4_listen 14 = .ok (.iconst 0, 1) := by decide +kernel
theorem dX4_listen_15 : decode cX4_listen 15 = .ok (.istore 4, 2) := by decide +kernel
theorem dX4_listen_17 : decode cX4_listen 17 = .ok (.iload 4, 2) := by decide +kernel
theorem dX4_listen_19 : decode cX4_listen 19 = .ok (.aload_n 0, 1) := by decide +kernel
theorem dX4_listen_20 : decode cX4_listen 20 = .ok (.getfield 15, 3) := by decide +kernel
theorem dX4_listen_23 : decode cX4_listen 23 = .ok (.if_icmp .ge 24, 3) := by decide +kernel
theorem dX4_listen_26 : decode cX4_listen 26 = .ok (.aload_n 0, 1) := by decide +kernel
theorem dX4_listen_27 : decode cX4_listen 27 = .ok (.getfield 9, 3) := by decide +kernel
theorem dX4_listen_30 : decode cX4_listen 30 = .ok (.iload 4, 2) := by decide +kernel
theorem dX4_listen_32 : decode cX4_listen 32 = .ok (.aload_n 2, 1) := by decide +kernel
theorem dX4_listen_33 : decode cX4_listen 33 = .ok (.iload_n 3, 1) := by decide +kernel
theorem dX4_listen_34 : decode cX4_listen 34 = .ok (.iload 4, 2) := by decide +kernel
theorem dX4_listen_36 : decode cX4_listen 36 = .ok (.invokevirtual 55, 3) := by decide +kernel
theorem dX4_listen_39 : decode cX4_listen 39 = .ok (.l2i, 1) := by decide +kernel
theorem dX4_listen_40 : decode cX4_listen 40 = .ok (.iastore, 1) := by decide +kernel
theorem dX4_listen_41 : decode cX4_listen 41 = .ok (.iinc 4 1, 3) := by decide +kernel
theorem dX4_listen_44 : decode cX4_listen 44 = .ok (.goto (-27), 3) := by decide +kernel
theorem dX4_listen_47 : decode cX4_listen 47 = .ok (.aload_n 0, 1) := by decide +kernel
theorem dX4_listen_48 : decode cX4_listen 48 = .ok (.iconst 0, 1) := by decide +kernel
theorem dX4_listen_49 : decode cX4_listen 49 = .ok (.putfield 19, 3) := by decide +kernel
theorem dX4_listen_52 : decode cX4_listen 52 = .ok (.aload_n 0, 1) := by decide +kernel
theorem dX4_listen_53 : decode cX4_listen 53 = .ok (.bipush (-2), 2) := by decide +kernel
theorem dX4_listen_55 : decode cX4_listen 55 = .ok (.putfield 22, 3) := by decide +kernel
theorem dX4_listen_58 : decode cX4_listen 58 = .ok (.aload_n 0, 1) := by decide +kernel
theorem dX4_listen_59 : decode cX4_listen 59 = .ok (.bipush (-2), 2) := by decide +kernel
theorem dX4_listen_61 : decode cX4_listen 61 = .ok (.putfield 25, 3) := by decide +kernel
theorem dX4_listen_64 : decode cX4_listen 64 = .ok (.aload_n 0, 1) := by decide +kernel
theorem dX4_listen_65 : decode cX4_listen 65 = .ok (.iconst 0, 1) := by decide +kernel
theorem dX4_listen_66 : decode cX4_listen 66 = .ok (.putfield 28, 3) := by decide +kernel
theorem dX4_listen_69 : decode cX4_listen 69 = .ok (.aload_n 0, 1) := by decide +kernel
theorem dX4_listen_70 : decode cX4_listen 70 = .ok (.getfield 31, 3) := by decide +kernel
theorem dX4_listen_73 : decode cX4_listen 73 = .ok (.iconst 0, 1) := by decide +kernel
theorem dX4_listen_74 : decode cX4_listen 74 = .ok (.aaload, 1) := by decide +kernel
theorem dX4_listen_75 : decode cX4_listen 75 = .ok (.aload_n 1, 1) := by decide +kernel
theorem dX4_listen_76 : decode cX4_listen 76 = .ok (.invokevirtual 59, 3) := by decide +kernel
theorem dX4_listen_79 : decode cX4_listen 79 = .ok (.aload_n 0, 1) := by decide +kernel
theorem dX4_listen_80 : decode cX4_listen 80 = .ok (.iconst 0, 1) := by decide +kernel
theorem dX4_listen_81 : decode cX4_listen 81 = .ok (.iconst 0, 1) := by decide +kernel
theorem dX4_listen_82 : decode cX4_listen 82 = .ok (.invokestatic 65, 3) := by decide +kernel
theorem dX4_listen_85 : decode cX4_listen 85 = .ok (.return_, 1) := by decide +kernel
theorem dX4_guess_0 : decode cX4_guess 0 = .ok (.aload_n 0, 1) := by decide +kernel
theorem dX4_guess_1 : decode cX4_guess 1 = .ok (.getfield 35, 3) := by decide +kernel
theorem dX4_guess_4 : decode cX4_guess 4 = .ok (.astore_n 3, 1) := by decide +kernel
theorem dX4_guess_5 : decode cX4_guess 5 = .ok (.iload_n 1, 1) := by decide +kernel
theorem dX4_guess_6 : decode cX4_guess 6 = .ok (.aload_n 3, 1) := by decide +kernel
theorem dX4_guess_7 : decode cX4_guess 7 = .ok (.getfield 69, 3) := by decide +kernel
theorem dX4_guess_10 : decode cX4_guess 10 = .ok (.if_icmp .ge 9, 3) := by decide +kernel
theorem dX4_guess_13 : decode cX4_guess 13 = .ok (.iload_n 1, 1) := by decide +kernel
theorem dX4_guess_14 : decode cX4_guess 14 = .ok (.bipush 12, 2) := by decide +kernel
theorem dX4_guess_16 : decode cX4_guess 16 = .ok (.if_icmp .lt 9, 3) := by decide +kernel
theorem dX4_guess_19 : decode cX4_guess 19 = .ok (.aload_n 0, 1) := by decide +kernel
theorem dX4_guess_20 : decode cX4_guess 20 = .ok (.iload_n 2, 1) := by decide +kernel
theorem dX4_guess_21 : decode cX4_guess 21 = .ok (.invokevirtual 74, 3) := by decide +kernel
theorem dX4_guess_24 : decode cX4_guess 24 = .ok (.return_, 1) := by decide +kernel
theorem dX4_guess_25 : decode cX4_guess 25 = .ok (.aload_n 0, 1) := by decide +kernel
theorem dX4_guess_26 : decode cX4_guess 26 = .ok (.getfield 31, 3) := by decide +kernel
theorem dX4_guess_29 : decode cX4_guess 29 = .ok (.iload_n 1, 1) := by decide +kernel
theorem dX4_guess_30 : decode cX4_guess 30 = .ok (.iconst 1, 1) := by decide +kernel
theorem dX4_guess_31 : decode cX4_guess 31 = .ok (.iadd, 1) := by decide +kernel
theorem dX4_guess_32 : decode cX4_guess 32 = .ok (.aaload, 1) := by decide +kernel
theorem dX4_guess_33 : decode cX4_guess 33 = .ok (.astore 4, 2) := by decide +kernel
theorem dX4_guess_35 : decode cX4_guess 35 = .ok (.iconst 0, 1) := by decide +kernel
theorem dX4_guess_36 : decode cX4_guess 36 = .ok (.istore 5, 2) := by decide +kernel
theorem dX4_guess_38 : decode cX4_guess 38 = .ok (.iload 5, 2) := by decide +kernel
theorem dX4_guess_40 : decode cX4_guess 40 = .ok (.iconst 1, 1) := by decide +kernel
theorem dX4_guess_41 : decode cX4_guess 41 = .ok (.if_icmp .gt 86, 3) := by decide +kernel
theorem dX4_guess_44 : decode cX4_guess 44 = .ok (.aload 4, 2) := by decide +kernel
theorem dX4_guess_46 : decode cX4_guess 46 = .ok (.aload_n 0, 1) := by decide +kernel
theorem dX4_guess_47 : decode cX4_guess 47 = .ok (.getfield 31, 3) := by decide +kernel
theorem dX4_guess_50 : decode cX4_guess 50 = .ok (.iload_n 1, 1) := by decide +kernel
theorem dX4_guess_51 : decode cX4_guess 51 = .ok (.aaload, 1) := by decide +kernel
theorem dX4_guess_52 : decode cX4_guess 52 = .ok (.bipush 8, 2) := by decide +kernel
theorem dX4_guess_54 : decode cX4_guess 54 = .ok (.invokevirtual 78, 3) := by decide +kernel
theorem dX4_guess_57 : decode cX4_guess 57 = .ok (.aload 4, 2) := by decide +kernel
theorem dX4_guess_59 : decode cX4_guess 59 = .ok (.aload_n 3, 1) := by decide +kernel
theorem dX4_guess_60 : decode cX4_guess 60 = .ok (.iload_n 1, 1) := by decide +kernel
theorem dX4_guess_61 : decode cX4_guess 61 = .ok (.invokevirtual 82, 3) := by decide +kernel
theorem dX4_guess_64 : decode cX4_guess 64 = .ok (.iload 5, 2) := by decide +kernel
theorem dX4_guess_66 : decode cX4_guess 66 = .ok (.iconst 1, 1) := by decide +kernel
theorem dX4_guess_67 : decode cX4_guess 67 = .ok (.if_icmp .ne 7, 3) := by decide +kernel
theorem dX4_guess_70 : decode cX4_guess 70 = .ok (.iconst 1, 1) := by decide +kernel
theorem dX4_guess_71 : decode cX4_guess 71 = .ok (.goto 4, 3) := by decide +kernel
theorem dX4_guess_74 : decode cX4_guess 74 = .ok (.iconst 0, 1) := by decide +kernel
theorem dX4_guess_75 : decode cX4_guess 75 = .ok (.invokevirtual 85, 3) := by decide +kernel
theorem dX4_guess_78 : decode cX4_guess 78 = .ok (.pop, 1) := by decide +kernel
theorem dX4_guess_79 : decode cX4_guess 79 = .ok (.iload_n 1, 1) := by decide +kernel
theorem dX4_guess_80 : decode cX4_guess 80 = .ok (.aload_n 0, 1) := by decide +kernel
theorem dX4_guess_81 : decode cX4_guess 81 = .ok (.getfield 15, 3) := by decide +kernel
theorem dX4_guess_84 : decode cX4_guess 84 = .ok (.if_icmp .ge 24, 3) := by decide +kernel
theorem dX4_guess_87 : decode cX4_guess 87 = .ok (.aload_n 0, 1) := by decide +kernel
theorem dX4_guess_88 : decode cX4_guess 88 = .ok (.getfield 39, 3) := by decide +kernel
theorem dX4_guess_91 : decode cX4_guess 91 = .ok (.aload 4, 2) := by decide +kernel
theorem dX4_guess_93 : decode cX4_guess 93 = .ok (.getfield 89, 3) := by decide +kernel
theorem dX4_guess_96 : decode cX4_guess 96 = .ok (.invokevirtual 92, 3) := by decide +kernel
theorem dX4_guess_99 : decode cX4_guess 99 = .ok (.aload_n 0, 1) := by decide +kernel
theorem dX4_guess_100 : decode cX4_guess 100 = .ok (.getfield 9, 3) := by decide +kernel
theorem dX4_guess_103 : decode cX4_guess 103 = .ok (.iload_n 1, 1) := by decide +kernel
theorem dX4_guess_104 : decode cX4_guess 104 = .ok (.iaload, 1) := by decide +kernel
theorem dX4_guess_105 : decode cX4_guess 105 = .ok (.if_icmp .ne 16, 3) := by decide +kernel
theorem dX4_guess_108 : decode cX4_guess 108 = .ok (.aload_n 0, 1) := by decide +kernel
theorem dX4_guess_109 : decode cX4_guess 109 = .ok (.iload_n 1, 1) := by decide +kernel
theorem dX4_guess_110 : decode cX4_guess 110 = .ok (.iconst 1, 1) := by decide +kernel
theorem dX4_guess_111 : decode cX4_guess 111 = .ok (.iadd, 1) := by decide +kernel
theorem dX4_guess_112 : decode cX4_guess 112 = .ok (.iload_n 2, 1) := by decide +kernel
theorem dX4_guess_113 : decode cX4_guess 113 = .ok (.iload 5, 2) := by decide +kernel
theorem dX4_guess_115 : decode cX4_guess 115 = .ok (.iload_n 1, 1) := by decide +kernel
theorem dX4_guess_116 : decode cX4_guess 116 = .ok (.ishl, 1) := by decide +kernel
theorem dX4_guess_117 : decode cX4_guess 117 = .ok (.ior, 1) := by decide +kernel
theorem dX4_guess_118 : decode cX4_guess 118 = .ok (.invokestatic 65, 3) := by decide +kernel
theorem dX4_guess_121 : decode cX4_guess 121 = .ok (.iinc 5 1, 3) := by decide +kernel
theorem dX4_guess_124 : decode cX4_guess 124 = .ok (.goto (-86), 3) := by decide +kernel
theorem dX4_guess_127 : decode cX4_guess 127 = .ok (.return_, 1) := by decide +kernel
theorem dX4_take_0 : decode cX4_take 0 = .ok (.iload_n 1, 1) := by decide +kernel
theorem dX4_take_1 : decode cX4_take 1 = .ok (.invokestatic 97, 3) := by decide +kernel
theorem dX4_take_4 : decode cX4_take 4 = .ok (.istore_n 2, 1) := by decide +kernel
theorem dX4_take_5 : decode cX4_take 5 = .ok (.aload_n 0, 1) := by decide +kernel
theorem dX4_take_6 : decode cX4_take 6 = .ok (.getfield 19, 3) := by decide +kernel
theorem dX4_take_9 : decode cX4_take 9 = .ok (.ifCond .eq 27, 3) := by decide +kernel
theorem dX4_take_12 : decode cX4_take 12 = .ok (.iload_n 2, 1) := by decide +kernel
theorem dX4_take_13 : decode cX4_take 13 = .ok (.aload_n 0, 1) := by decide +kernel
theorem dX4_take_14 : decode cX4_take 14 = .ok (.getfield 22, 3) := by decide +kernel
theorem dX4_take_17 : decode cX4_take 17 = .ok (.if_icmp .lt 19, 3) := by decide +kernel
theorem dX4_take_20 : decode cX4_take 20 = .ok (.iload_n 2, 1) := by decide +kernel
theorem dX4_take_21 : decode cX4_take 21 = .ok (.aload_n 0, 1) := by decide +kernel
theorem dX4_take_22 : decode cX4_take 22 = .ok (.getfield 22, 3) := by decide +kernel
theorem dX4_take_25 : decode cX4_take 25 = .ok (.if_icmp .ne 21, 3) := by decide +kernel
theorem dX4_take_28 : decode cX4_take 28 = .ok (.iload_n 1, 1) := by decide +kernel
theorem dX4_take_29 : decode cX4_take 29 = .ok (.aload_n 0, 1) := by decide +kernel
theorem dX4_take_30 : decode cX4_take 30 = .ok (.getfield 25, 3) := by decide +kernel
theorem dX4_take_33 : decode cX4_take 33 = .ok (.if_icmp .ge 13, 3) := by decide +kernel
theorem dX4_take_36 : decode cX4_take 36 = .ok (.aload_n 0, 1) := by decide +kernel
theorem dX4_take_37 : decode cX4_take 37 = .ok (.iload_n 2, 1) := by decide +kernel
theorem dX4_take_38 : decode cX4_take 38 = .ok (.putfield 22, 3) := by decide +kernel
theorem dX4_take_41 : decode cX4_take 41 = .ok (.aload_n 0, 1) := by decide +kernel
theorem dX4_take_42 : decode cX4_take 42 = .ok (.iload_n 1, 1) := by decide +kernel
theorem dX4_take_43 : decode cX4_take 43 = .ok (.putfield 25, 3) := by decide +kernel
theorem dX4_take_46 : decode cX4_take 46 = .ok (.aload_n 0, 1) := by decide +kernel
theorem dX4_take_47 : decode cX4_take 47 = .ok (.aload_n 0, 1) := by decide +kernel
theorem dX4_take_48 : decode cX4_take 48 = .ok (.getfield 19, 3) := by decide +kernel
theorem dX4_take_51 : decode cX4_take 51 = .ok (.ifCond .ne 7, 3) := by decide +kernel
theorem dX4_take_54 : decode cX4_take 54 = .ok (.iload_n 1, 1) := by decide +kernel
theorem dX4_take_55 : decode cX4_take 55 = .ok (.goto 9, 3) := by decide +kernel
theorem dX4_take_58 : decode cX4_take 58 = .ok (.aload_n 0, 1) := by decide +kernel
theorem dX4_take_59 : decode cX4_take 59 = .ok (.getfield 28, 3) := by decide +kernel
theorem dX4_take_62 : decode cX4_take 62 = .ok (.iload_n 1, 1) := by decide +kernel
theorem dX4_take_63 : decode cX4_take 63 = .ok (.iand, 1) := by decide +kernel
theorem dX4_take_64 : decode cX4_take 64 = .ok (.putfield 28, 3) := by decide +kernel
theorem dX4_take_67 : decode cX4_take 67 = .ok (.aload_n 0, 1) := by decide +kernel
theorem dX4_take_68 : decode cX4_take 68 = .ok (.dup, 1) := by decide +kernel
theorem dX4_take_69 : decode cX4_take 69 = .ok (.getfield 19, 3) := by decide +kernel
theorem dX4_take_72 : decode cX4_take 72 = .ok (.iconst 1, 1) := by decide +kernel
theorem dX4_take_73 : decode cX4_take 73 = .ok (.iadd, 1) := by decide +kernel
theorem dX4_take_74 : decode cX4_take 74 = .ok (.putfield 19, 3) := by decide +kernel
theorem dX4_take_77 : decode cX4_take 77 = .ok (.return_, 1) := by decide +kernel
