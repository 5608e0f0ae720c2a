theorem dX3_init_0 : decode cX3_init 0 = .ok (.aload_n 0, 1) := by decide +kernel
theorem dX3_init_1 : decode cX3_init 1 = .ok (.invokespecial 3, 3) := by decide +kernel
theorem dX3_init_4 : decode cX3_init 4 = .ok (.aload_n 0, 1) := by decide +kernel
theorem dX3_init_5 : decode cX3_init 5 = .ok (.bipush 8, 2) := by decide +kernel
theorem dX3_init_7 : decode cX3_init 7 = .ok (.newarray .int, 2) := by decide +kernel
theorem dX3_init_9 : decode cX3_init 9 = .ok (.putfield 9, 3) := by decide +kernel
theorem dX3_init_12 : decode cX3_init 12 = .ok (.aload_n 0, 1) := by decide +kernel
theorem dX3_init_13 : decode cX3_init 13 = .ok (.bipush 8, 2) := by decide +kernel
theorem dX3_init_15 : decode cX3_init 15 = .ok (.putfield 15, 3) := by decide +kernel
theorem dX3_init_18 : decode cX3_init 18 = .ok (.aload_n 0, 1) := by decide +kernel
theorem dX3_init_19 : decode cX3_init 19 = .ok (.iconst 0, 1) := by decide +kernel
theorem dX3_init_20 : decode cX3_init 20 = .ok (.putfield 19, 3) := by decide +kernel
theorem dX3_init_23 : decode cX3_init 23 = .ok (.aload_n 0, 1) := by decide +kernel
theorem dX3_init_24 : decode cX3_init 24 = .ok (.bipush (-2), 2) := by decide +kernel
theorem dX3_init_26 : decode cX3_init 26 = .ok (.putfield 22, 3) := by decide +kernel
theorem dX3_init_29 : decode cX3_init 29 = .ok (.aload_n 0, 1) := by decide +kernel
theorem dX3_init_30 : decode cX3_init 30 = .ok (.iconst 0, 1) := by decide +kernel
theorem dX3_init_31 : decode cX3_init 31 = .ok (.putfield 25, 3) := by decide +kernel
theorem dX3_init_34 : decode cX3_init 34 = .ok (.aload_n 0, 1) := by decide +kernel
theorem dX3_init_35 : decode cX3_init 35 = .ok (.iconst 0, 1) := by decide +kernel
theorem dX3_init_36 : decode cX3_init 36 = .ok (.putfield 28, 3) := by decide +kernel
theorem dX3_init_39 : decode cX3_init 39 = .ok (.aload_n 0, 1) := by decide +kernel
theorem dX3_init_40 : decode cX3_init 40 = .ok (.iconst 0, 1) := by decide +kernel
theorem dX3_init_41 : decode cX3_init 41 = .ok (.putfield 31, 3) := by decide +kernel
theorem dX3_init_44 : decode cX3_init 44 = .ok (.aload_n 0, 1) := by decide +kernel
theorem dX3_init_45 : decode cX3_init 45 = .ok (.iconst 0, 1) := by decide +kernel
theorem dX3_init_46 : decode cX3_init 46 = .ok (.putfield 34, 3) := by decide +kernel
theorem dX3_init_49 : decode cX3_init 49 = .ok (.aload_n 0, 1) := by decide +kernel
theorem dX3_init_50 : decode cX3_init 50 = .ok (.iconst 0, 1) := by decide +kernel
theorem dX3_init_51 : decode cX3_init 51 = .ok (.putfield 37, 3) := by decide +kernel
theorem dX3_init_54 : decode cX3_init 54 = .ok (.aload_n 0, 1) := by decide +kernel
theorem dX3_init_55 : decode cX3_init 55 = .ok (.aload_n 1, 1) := by decide +kernel
theorem dX3_init_56 : decode cX3_init 56 = .ok (.putfield 40, 3) := by decide +kernel
theorem dX3_init_59 : decode cX3_init 59 = .ok (.aload_n 0, 1) := by decide +kernel
theorem dX3_init_60 : decode cX3_init 60 = .ok (.aload_n 2, 1) := by decide +kernel
theorem dX3_init_61 : decode cX3_init 61 = .ok (.putfield 44, 3) := by decide +kernel
theorem dX3_init_64 : decode cX3_init 64 = .ok (.return_, 1) := by decide +kernel
theorem dX3_follow_0 : decode cX3_follow 0 = .ok (.aload_n 1, 1) := by decide +kernel
theorem dX3_follow_1 : decode cX3_follow 1 = .ok (.getfield 9, 3) := by decide +kernel
theorem dX3_follow_4 : decode cX3_follow 4 = .ok (.iconst 0, 1) := by decide +kernel
theorem dX3_follow_5 : decode cX3_follow 5 = .ok (.aload_n 0, 1) := by decide +kernel
theorem dX3_follow_6 : decode cX3_follow 6 = .ok (.getfield 9, 3) := by decide +kernel
theorem dX3_follow_9 : decode cX3_follow 9 = .ok (.iconst 0, 1) := by decide +kernel
theorem dX3_follow_10 : decode cX3_follow 10 = .ok (.iload_n 2, 1) := by decide +kernel
theorem dX3_follow_11 : decode cX3_follow 11 = .ok (.bipush 8, 2) := by decide +kernel
theorem dX3_follow_13 : decode cX3_follow 13 = .ok (.invokestatic 48, 3) := by decide +kernel
theorem dX3_follow_16 : decode cX3_follow 16 = .ok (.invokestatic 54, 3) := by decide +kernel
theorem dX3_follow_19 : decode cX3_follow 19 = .ok (.aload_n 0, 1) := by decide +kernel
theorem dX3_follow_20 : decode cX3_follow 20 = .ok (.aload_n 1, 1) := by decide +kernel
theorem dX3_follow_21 : decode cX3_follow 21 = .ok (.getfield 15, 3) := by decide +kernel
theorem dX3_follow_24 : decode cX3_follow 24 = .ok (.putfield 15, 3) := by decide +kernel
theorem dX3_follow_27 : decode cX3_follow 27 = .ok (.aload_n 0, 1) := by decide +kernel
theorem dX3_follow_28 : decode cX3_follow 28 = .ok (.aload_n 1, 1) := by decide +kernel
theorem dX3_follow_29 : decode cX3_follow 29 = .ok (.getfield 19, 3) := by decide +kernel
theorem dX3_follow_32 : decode cX3_follow 32 = .ok (.putfield 19, 3) := by decide +kernel
theorem dX3_follow_35 : decode cX3_follow 35 = .ok (.aload_n 0, 1) := by decide +kernel
theorem dX3_follow_36 : decode cX3_follow 36 = .ok (.aload_n 1, 1) := by decide +kernel
theorem dX3_follow_37 : decode cX3_follow 37 = .ok (.getfield 22, 3) := by decide +kernel
theorem dX3_follow_40 : decode cX3_follow 40 = .ok (.putfield 22, 3) := by decide +kernel
theorem dX3_follow_43 : decode cX3_follow 43 = .ok (.aload_n 0, 1) := by decide +kernel
theorem dX3_follow_44 : decode cX3_follow 44 = .ok (.aload_n 1, 1) := by decide +kernel
theorem dX3_follow_45 : decode cX3_follow 45 = .ok (.getfield 25, 3) := by decide +kernel
theorem dX3_follow_48 : decode cX3_follow 48 = .ok (.putfield 25, 3) := by decide +kernel
theorem dX3_follow_51 : decode cX3_follow 51 = .ok (.aload_n 0, 1) := by decide +kernel
theorem dX3_follow_52 : decode cX3_follow 52 = .ok (.aload_n 1, 1) := by decide +kernel
theorem dX3_follow_53 : decode cX3_follow 53 = .ok (.getfield 28, 3) := by decide +kernel
theorem dX3_follow_56 : decode cX3_follow 56 = .ok (.putfield 28, 3) := by decide +kernel
theorem dX3_follow_59 : decode cX3_follow 59 = .ok (.aload_n 0, 1) := by decide +kernel
theorem dX3_follow_60 : decode cX3_follow 60 = .ok (.aload_n 1, 1) := by decide +kernel
theorem dX3_follow_61 : decode cX3_follow 61 = .ok (.getfield 31, 3) := by decide +kernel
theorem dX3_follow_64 : decode cX3_follow 64 = .ok (.putfield 31, 3) := by decide +kernel
theorem dX3_follow_67 : decode cX3_follow 67 = .ok (.aload_n 0, 1) := by decide +kernel
theorem dX3_follow_68 : decode cX3_follow 68 = .ok (.aload_n 1, 1) := by decide +kernel
theorem dX3_follow_69 : decode cX3_follow 69 = .ok (.getfield 34, 3) := by decide +kernel
theorem dX3_follow_72 : decode cX3_follow 72 = .ok (.putfield 34, 3) := by decide +kernel
theorem dX3_follow_75 : decode cX3_follow 75 = .ok (.aload_n 0, 1) := by decide +kernel
theorem dX3_follow_76 : decode cX3_follow 76 = .ok (.aload_n 1, 1) := by decide +kernel
theorem dX3_follow_77 : decode cX3_follow 77 = .ok (.getfield 37, 3) := by decide +kernel
theorem dX3_follow_80 : decode cX3_follow 80 = .ok (.putfield 37, 3) := by decide +kernel
theorem dX3_follow_83 : decode cX3_follow 83 = .ok (.return_, 1) := by decide +kernel
theorem dX3_begin_0 : decode cX3_begin 0 = .ok (.aload_n 0, 1) := by decide +kernel
theorem dX3_begin_1 : decode cX3_begin 1 = .ok (.aload_n 1, 1) := by decide +kernel
theorem dX3_begin_2 : decode cX3_begin 2 = .ok (.bipush 8, 2) := by decide +kernel
theorem dX3_begin_4 : decode cX3_begin 4 = .ok (.invokevirtual 60, 3) := by decide +kernel
theorem dX3_begin_7 : decode cX3_begin 7 = .ok (.aload_n 0, 1) := by decide +kernel
theorem dX3_begin_8 : decode cX3_begin 8 = .ok (.iconst 0, 1) := by decide +kernel
theorem dX3_begin_9 : decode cX3_begin 9 = .ok (.putfield 25, 3) := by decide +kernel
theorem dX3_begin_12 : decode cX3_begin 12 = .ok (.aload_n 0, 1) := by decide +kernel
theorem dX3_begin_13 : decode cX3_begin 13 = .ok (.iconst 0, 1) := by decide +kernel
theorem dX3_begin_14 : decode cX3_begin 14 = .ok (.putfield 28, 3) := by decide +kernel
theorem dX3_begin_17 : decode cX3_begin 17 = .ok (.aload_n 0, 1) := by decide +kernel
theorem dX3_begin_18 : decode cX3_begin 18 = .ok (.iconst 0, 1) := by decide +kernel
theorem dX3_begin_19 : decode cX3_begin 19 = .ok (.putfield 31, 3) := by decide +kernel
theorem dX3_begin_22 : decode cX3_begin 22 = .ok (.aload_n 0, 1) := by decide +kernel
theorem dX3_begin_23 : decode cX3_begin 23 = .ok (.iconst 0, 1) := by decide +kernel
theorem dX3_begin_24 : decode cX3_begin 24 = .ok (.putfield 34, 3) := by decide +kernel
theorem dX3_begin_27 : decode cX3_begin 27 = .ok (.aload_n 0, 1) := by decide +kernel
theorem dX3_begin_28 : decode cX3_begin 28 = .ok (.iconst 0, 1) := by decide +kernel
theorem dX3_begin_29 : decode cX3_begin 29 = .ok (.putfield 37, 3) := by decide +kernel
theorem dX3_begin_32 : decode cX3_begin 32 = .ok (.return_, 1) := by decide +kernel
theorem dX3_utter_0 : decode cX3_utter 0 = .ok (.aload_n 0, 1) := by decide +kernel
theorem dX3_utter_1 : decode cX3_utter 1 = .ok (.dup, 1) := by decide +kernel
theorem dX3_utter_2 : decode cX3_utter 2 = .ok (.getfield 25, 3) := by decide +kernel
theorem dX3_utter_5 : decode cX3_utter 5 = .ok (.iconst 1, 1) := by decide +kernel
theorem dX3_utter_6 : decode cX3_utter 6 = .ok (.iadd, 1) := by decide +kernel
theorem dX3_utter_7 : decode cX3_utter 7 = .ok (.putfield 25, 3) := by decide +kernel
theorem dX3_utter_10 : decode cX3_utter 10 = .ok (.iload_n 2, 1) := by decide +kernel
theorem dX3_utter_11 : decode cX3_utter 11 = .ok (.ifCond .eq 40, 3) := by decide +kernel
theorem dX3_utter_14 : decode cX3_utter 14 = .ok (.aload_n 0, 1) := by decide +kernel
theorem dX3_utter_15 : decode cX3_utter 15 = .ok (.getfield 44, 3) := by decide +kernel
theorem dX3_utter_18 : decode cX3_utter 18 = .ok (.aload_n 0, 1) := by decide +kernel
theorem dX3_utter_19 : decode cX3_utter 19 = .ok (.iload_n 1, 1) := by decide +kernel
theorem dX3_utter_20 : decode cX3_utter 20 = .ok (.invokevirtual 64, 3) := by decide +kernel
theorem dX3_utter_23 : decode cX3_utter 23 = .ok (.ifCond .le 18, 3) := by decide +kernel
theorem dX3_utter_26 : decode cX3_utter 26 = .ok (.aload_n 0, 1) := by decide +kernel
theorem dX3_utter_27 : decode cX3_utter 27 = .ok (.dup, 1) := by decide +kernel
theorem dX3_utter_28 : decode cX3_utter 28 = .ok (.getfield 31, 3) := by decide +kernel
theorem dX3_utter_31 : decode cX3_utter 31 = .ok (.iconst 1, 1) := by decide +kernel
theorem dX3_utter_32 : decode cX3_utter 32 = .ok (.iadd, 1) := by decide +kernel
theorem dX3_utter_33 : decode cX3_utter 33 = .ok (.putfield 31, 3) := by decide +kernel
theorem dX3_utter_36 : decode cX3_utter 36 = .ok (.aload_n 0, 1) := by decide +kernel
theorem dX3_utter_37 : decode cX3_utter 37 = .ok (.iload_n 1, 1) := by decide +kernel
theorem dX3_utter_38 : decode cX3_utter 38 = .ok (.putfield 22, 3) := by decide +kernel
theorem dX3_utter_41 : decode cX3_utter 41 = .ok (.aload_n 0, 1) := by decide +kernel
theorem dX3_utter_42 : decode cX3_utter 42 = .ok (.dup, 1) := by decide +kernel
theorem dX3_utter_43 : decode cX3_utter 43 = .ok (.getfield 28, 3) := by decide +kernel
theorem dX3_utter_46 : decode cX3_utter 46 = .ok (.iconst 1, 1) := by decide +kernel
theorem dX3_utter_47 : decode cX3_utter 47 = .ok (.iadd, 1) := by decide +kernel
theorem dX3_utter_48 : decode cX3_utter 48 = .ok (.putfield 28, 3) := by decide +kernel
theorem dX3_utter_51 : decode cX3_utter 51 = .ok (.aload_n 0, 1) := by decide +kernel
theorem dX3_utter_52 : decode cX3_utter 52 = .ok (.invokevirtual 70, 3) := by decide +kernel
theorem dX3_utter_55 : decode cX3_utter 55 = .ok (.ireturn, 1) := by decide +kernel
theorem dX3_passHour_0 : decode cX3_passHour 0 = .ok (.aload_n 0, 1) := by decide +kernel
theorem dX3_passHour_1 : decode cX3_passHour 1 = .ok (.aload_n 0, 1) := by decide +kernel
theorem dX3_passHour_2 : decode cX3_passHour 2 = .ok (.getfield 15, 3) := by decide +kernel
theorem dX3_passHour_5 : decode cX3_passHour 5 = .ok (.iconst 1, 1) := by decide +kernel
theorem dX3_passHour_6 : decode cX3_passHour 6 = .ok (.iadd, 1) := by decide +kernel
theorem dX3_passHour_7 : decode cX3_passHour 7 = .ok (.bipush 24, 2) := by decide +kernel
theorem dX3_passHour_9 : decode cX3_passHour 9 = .ok (.irem, 1) := by decide +kernel
theorem dX3_passHour_10 : decode cX3_passHour 10 = .ok (.putfield 15, 3) := by decide +kernel
theorem dX3_passHour_13 : decode cX3_passHour 13 = .ok (.aload_n 0, 1) := by decide +kernel
theorem dX3_passHour_14 : decode cX3_passHour 14 = .ok (.getfield 22, 3) := by decide +kernel
theorem dX3_passHour_17 : decode cX3_passHour 17 = .ok (.bipush (-2), 2) := by decide +kernel
theorem dX3_passHour_19 : decode cX3_passHour 19 = .ok (.if_icmp .eq 32, 3) := by decide +kernel
theorem dX3_passHour_22 : decode cX3_passHour 22 = .ok (.aload_n 0, 1) := by decide +kernel
theorem dX3_passHour_23 : decode cX3_passHour 23 = .ok (.getfield 19, 3) := by decide +kernel
theorem dX3_passHour_26 : decode cX3_passHour 26 = .ok (.aload_n 0, 1) := by decide +kernel
theorem dX3_passHour_27 : decode cX3_passHour 27 = .ok (.getfield 40, 3) := by decide +kernel
theorem dX3_passHour_30 : decode cX3_passHour 30 = .ok (.getfield 74, 3) := by decide +kernel
theorem dX3_passHour_33 : decode cX3_passHour 33 = .ok (.aload_n 0, 1) := by decide +kernel
theorem dX3_passHour_34 : decode cX3_passHour 34 = .ok (.getfield 22, 3) := by decide +kernel
theorem dX3_passHour_37 : decode cX3_passHour 37 = .ok (.iaload, 1) := by decide +kernel
theorem dX3_passHour_38 : decode cX3_passHour 38 = .ok (.invokestatic 79, 3) := by decide +kernel
theorem dX3_passHour_41 : decode cX3_passHour 41 = .ok (.aload_n 0, 1) := by decide +kernel
theorem dX3_passHour_42 : decode cX3_passHour 42 = .ok (.getfield 40, 3) := by decide +kernel
theorem dX3_passHour_45 : decode cX3_passHour 45 = .ok (.getfield 82, 3) := by decide +kernel
theorem dX3_passHour_48 : decode cX3_passHour 48 = .ok (.if_icmp .le 6, 3) := by decide +kernel
theorem dX3_passHour_51 : decode cX3_passHour 51 = .ok (.bipush (-2), 2) := by decide +kernel
theorem dX3_passHour_53 : decode cX3_passHour 53 = .ok (.ireturn, 1) := by decide +kernel
theorem dX3_passHour_54 : decode cX3_passHour 54 = .ok (.aload_n 0, 1) := by decide +kernel
theorem dX3_passHour_55 : decode cX3_passHour 55 = .ok (.aload_n 0, 1) := by decide +kernel
theorem dX3_passHour_56 : decode cX3_passHour 56 = .ok (.getfield 19, 3) := by decide +kernel
theorem dX3_passHour_59 : decode cX3_passHour 59 = .ok (.aload_n 0, 1) := by decide +kernel
theorem dX3_passHour_60 : decode cX3_passHour 60 = .ok (.getfield 40, 3) := by decide +kernel
theorem dX3_passHour_63 : decode cX3_passHour 63 = .ok (.getfield 74, 3) := by decide +kernel
theorem dX3_passHour_66 : decode cX3_passHour 66 = .ok (.aload_n 0, 1) := by decide +kernel
theorem dX3_passHour_67 : decode cX3_passHour 67 = .ok (.getfield 22, 3) := by decide +kernel
theorem dX3_passHour_70 : decode cX3_passHour 70 = .ok (.iaload, 1) := by decide +kernel
theorem dX3_passHour_71 : decode cX3_passHour 71 = .ok (.aload_n 0, 1) := by decide +kernel
theorem dX3_passHour_72 : decode cX3_passHour 72 = .ok (.getfield 40, 3) := by decide +kernel
theorem dX3_passHour_75 : decode cX3_passHour 75 = .ok (.getfield 85, 3) := by decide +kernel
theorem dX3_passHour_78 : decode cX3_passHour 78 = .ok (.invokestatic 88, 3) := by decide +kernel
theorem dX3_passHour_81 : decode cX3_passHour 81 = .ok (.putfield 19, 3) := by decide +kernel
theorem dX3_passHour_84 : decode cX3_passHour 84 = .ok (.aload_n 0, 1) := by decide +kernel
theorem dX3_passHour_85 : decode cX3_passHour 85 = .ok (.getfield 19, 3) := by decide +kernel
theorem dX3_passHour_88 : decode cX3_passHour 88 = .ok (.aload_n 0, 1) := by decide +kernel
theorem dX3_passHour_89 : decode cX3_passHour 89 = .ok (.getfield 40, 3) := by decide +kernel
theorem dX3_passHour_92 : decode cX3_passHour 92 = .ok (.getfield 74, 3) := by decide +kernel
theorem dX3_passHour_95 : decode cX3_passHour 95 = .ok (.aload_n 0, 1) := by decide +kernel
theorem dX3_passHour_96 : decode cX3_passHour 96 = .ok (.getfield 22, 3) := by decide +kernel
theorem dX3_passHour_99 : decode cX3_passHour 99 = .ok (.iaload, 1) := by decide +kernel
theorem dX3_passHour_100 : decode cX3_passHour 100 = .ok (.if_icmp .eq 6, 3) := by decide +kernel
theorem dX3_passHour_103 : decode cX3_passHour 103 = .ok (.bipush (-2), 2) := by decide +kernel
theorem dX3_passHour_105 : decode cX3_passHour 105 = .ok (.ireturn, 1) := by decide +kernel
theorem dX3_passHour_106 : decode cX3_passHour 106 = .ok (.aload_n 0, 1) := by decide +kernel
theorem dX3_passHour_107 : decode cX3_passHour 107 = .ok (.getfield 22, 3) := by decide +kernel
theorem dX3_passHour_110 : decode cX3_passHour 110 = .ok (.istore_n 1, 1) := by decide +kernel
theorem dX3_passHour_111 : decode cX3_passHour 111 = .ok (.aload_n 0, 1) := by decide +kernel
theorem dX3_passHour_112 : decode cX3_passHour 112 = .ok (.dup, 1) := by decide +kernel
theorem dX3_passHour_113 : decode cX3_passHour 113 = .ok (.getfield 34, 3) := by decide +kernel
theorem dX3_passHour_116 : decode cX3_passHour 116 = .ok (.iconst 1, 1) := by decide +kernel
theorem dX3_passHour_117 : decode cX3_passHour 117 = .ok (.iadd, 1) := by decide +kernel
theorem dX3_passHour_118 : decode cX3_passHour 118 = .ok (.putfield 34, 3) := by decide +kernel
theorem dX3_passHour_121 : decode cX3_passHour 121 = .ok (.aload_n 0, 1) := by decide +kernel
theorem dX3_passHour_122 : decode cX3_passHour 122 = .ok (.getfield 9, 3) := by decide +kernel
theorem dX3_passHour_125 : decode cX3_passHour 125 = .ok (.iload_n 1, 1) := by decide +kernel
theorem dX3_passHour_126 : decode cX3_passHour 126 = .ok (.iaload, 1) := by decide +kernel
theorem dX3_passHour_127 : decode cX3_passHour 127 = .ok (.ifCond .le 16, 3) := by decide +kernel
theorem dX3_passHour_130 : decode cX3_passHour 130 = .ok (.aload_n 0, 1) := by decide +kernel
theorem dX3_passHour_131 : decode cX3_passHour 131 = .ok (.getfield 9, 3) := by decide +kernel
theorem dX3_passHour_134 : decode cX3_passHour 134 = .ok (.iload_n 1, 1) := by decide +kernel
theorem dX3_passHour_135 : decode cX3_passHour 135 = .ok (.dup2, 1) := by decide +kernel
theorem dX3_passHour_136 : decode cX3_passHour 136 = .ok (.iaload, 1) := by decide +kernel
theorem dX3_passHour_137 : decode cX3_passHour 137 = .ok (.iconst 1, 1) := by decide +kernel
theorem dX3_passHour_138 : decode cX3_passHour 138 = .ok (.isub, 1) := by decide +kernel
theorem dX3_passHour_139 : decode cX3_passHour 139 = .ok (.iastore, 1) := by decide +kernel
theorem dX3_passHour_140 : decode cX3_passHour 140 = .ok (.goto 13, 3) := by decide +kernel
theorem dX3_passHour_143 : decode cX3_passHour 143 = .ok (.aload_n 0, 1) := by decide +kernel
theorem dX3_passHour_144 : decode cX3_passHour 144 = .ok (.dup, 1) := by decide +kernel
theorem dX3_passHour_145 : decode cX3_passHour 145 = .ok (.getfield 37, 3) := by decide +kernel
theorem dX3_passHour_148 : decode cX3_passHour 148 = .ok (.iconst 1, 1) := by decide +kernel
theorem dX3_passHour_149 : decode cX3_passHour 149 = .ok (.iadd, 1) := by decide +kernel
theorem dX3_passHour_150 : decode cX3_passHour 150 = .ok (.putfield 37, 3) := by decide +kernel
theorem dX3_passHour_153 : decode cX3_passHour 153 = .ok (.aload_n 0, 1) := by decide +kernel
theorem dX3_passHour_154 : decode cX3_passHour 154 = .ok (.bipush (-2), 2) := by decide +kernel
theorem dX3_passHour_156 : decode cX3_passHour 156 = .ok (.putfield 22, 3) := by decide +kernel
theorem dX3_passHour_159 : decode cX3_passHour 159 = .ok (.iload_n 1, 1) := by decide +kernel
theorem dX3_passHour_160 : decode cX3_passHour 160 = .ok (.ireturn, 1) := by decide +kernel
theorem dX3_flown_0 : decode cX3_flown 0 = .ok (.iload_n 0, 1) := by decide +kernel
theorem dX3_flown_1 : decode cX3_flown 1 = .ok (.bipush 15, 2) := by decide +kernel
theorem dX3_flown_3 : decode cX3_flown 3 = .ok (.iand, 1) := by decide +kernel
theorem dX3_flown_4 : decode cX3_flown 4 = .ok (.iload_n 1, 1) := by decide +kernel
theorem dX3_flown_5 : decode cX3_flown 5 = .ok (.bipush 15, 2) := by decide +kernel
theorem dX3_flown_7 : decode cX3_flown 7 = .ok (.iand, 1) := by decide +kernel
theorem dX3_flown_8 : decode cX3_flown 8 = .ok (.iload_n 2, 1) := by decide +kernel
theorem dX3_flown_9 : decode cX3_flown 9 = .ok (.invokestatic 92, 3) := by decide +kernel
theorem dX3_flown_12 : decode cX3_flown 12 = .ok (.istore_n 3, 1) := by decide +kernel
theorem dX3_flown_13 : decode cX3_flown 13 = .ok (.iload_n 2, 1) := by decide +kernel
theorem dX3_flown_14 : decode cX3_flown 14 = .ok (.iload_n 0, 1) := by decide +kernel
theorem dX3_flown_15 : decode cX3_flown 15 = .ok (.bipush 15, 2) := by decide +kernel
theorem dX3_flown_17 : decode cX3_flown 17 = .ok (.iand, 1) := by decide +kernel
theorem dX3_flown_18 : decode cX3_flown 18 = .ok (.iload_n 3, 1) := by decide +kernel
theorem dX3_flown_19 : decode cX3_flown 19 = .ok (.invokestatic 79, 3) := by decide +kernel
theorem dX3_flown_22 : decode cX3_flown 22 = .ok (.isub, 1) := by decide +kernel
theorem dX3_flown_23 : decode cX3_flown 23 = .ok (.istore 4, 2) := by decide +kernel
theorem dX3_flown_25 : decode cX3_flown 25 = .ok (.iload_n 0, 1) := by decide +kernel
theorem dX3_flown_26 : decode cX3_flown 26 = .ok (.iconst 4, 1) := by decide +kernel
theorem dX3_flown_27 : decode cX3_flown 27 = .ok (.ishr, 1) := by decide +kernel
theorem dX3_flown_28 : decode cX3_flown 28 = .ok (.iload_n 1, 1) := by decide +kernel
theorem dX3_flown_29 : decode cX3_flown 29 = .ok (.iconst 4, 1) := by decide +kernel
theorem dX3_flown_30 : decode cX3_flown 30 = .ok (.ishr, 1) := by decide +kernel
theorem dX3_flown_31 : decode cX3_flown 31 = .ok (.iload 4, 2) := by decide +kernel
theorem dX3_flown_33 : decode cX3_flown 33 = .ok (.invokestatic 92, 3) := by decide +kernel
theorem dX3_flown_36 : decode cX3_flown 36 = .ok (.bipush 16, 2) := by decide +kernel
theorem dX3_flown_38 : decode cX3_flown 38 = .ok (.imul, 1) := by decide +kernel
theorem dX3_flown_39 : decode cX3_flown 39 = .ok (.iload_n 3, 1) := by decide +kernel
theorem dX3_flown_40 : decode cX3_flown 40 = .ok (.iadd, 1) := by decide +kernel
theorem dX3_flown_41 : decode cX3_flown 41 = .ok (.ireturn, 1) := by decide +kernel
theorem dX3_nearer_0 : decode cX3_nearer 0 = .ok (.iload_n 1, 1) := by decide +kernel
theorem dX3_nearer_1 : decode cX3_nearer 1 = .ok (.iload_n 0, 1) := by decide +kernel
theorem dX3_nearer_2 : decode cX3_nearer 2 = .ok (.if_icmp .le 18, 3) := by decide +kernel
theorem dX3_nearer_5 : decode cX3_nearer 5 = .ok (.iload_n 0, 1) := by decide +kernel
theorem dX3_nearer_6 : decode cX3_nearer 6 = .ok (.iload_n 2, 1) := by decide +kernel
theorem dX3_nearer_7 : decode cX3_nearer 7 = .ok (.iadd, 1) := by decide +kernel
theorem dX3_nearer_8 : decode cX3_nearer 8 = .ok (.iload_n 1, 1) := by decide +kernel
theorem dX3_nearer_9 : decode cX3_nearer 9 = .ok (.if_icmp .ge 9, 3) := by decide +kernel
theorem dX3_nearer_12 : decode cX3_nearer 12 = .ok (.iload_n 0, 1) := by decide +kernel
theorem dX3_nearer_13 : decode cX3_nearer 13 = .ok (.iload_n 2, 1) := by decide +kernel
theorem dX3_nearer_14 : decode cX3_nearer 14 = .ok (.iadd, 1) := by decide +kernel
theorem dX3_nearer_15 : decode cX3_nearer 15 = .ok (.goto 4, 3) := by decide +kernel
theorem dX3_nearer_18 : decode cX3_nearer 18 = .ok (.iload_n 1, 1) := by decide +kernel
theorem dX3_nearer_19 : decode cX3_nearer 19 = .ok (.ireturn, 1) := by decide +kernel
theorem dX3_nearer_20 : decode cX3_nearer 20 = .ok (.iload_n 0, 1) := by decide +kernel
theorem dX3_nearer_21 : decode cX3_nearer 21 = .ok (.iload_n 2, 1) := by decide +kernel
theorem dX3_nearer_22 : decode cX3_nearer 22 = .ok (.isub, 1) := by decide +kernel
theorem dX3_nearer_23 : decode cX3_nearer 23 = .ok (.iload_n 1, 1) := by decide +kernel
theorem dX3_nearer_24 : decode cX3_nearer 24 = .ok (.if_icmp .le 9, 3) := by decide +kernel
theorem dX3_nearer_27 : decode cX3_nearer 27 = .ok (.iload_n 0, 1) := by decide +kernel
theorem dX3_nearer_28 : decode cX3_nearer 28 = .ok (.iload_n 2, 1) := by decide +kernel
theorem dX3_nearer_29 : decode cX3_nearer 29 = .ok (.isub, 1) := by decide +kernel
theorem dX3_nearer_30 : decode cX3_nearer 30 = .ok (.goto 4, 3) := by decide +kernel
theorem dX3_nearer_33 : decode cX3_nearer 33 = .ok (.iload_n 1, 1) := by decide +kernel
theorem dX3_nearer_34 : decode cX3_nearer 34 = .ok (.ireturn, 1) := by decide +kernel
