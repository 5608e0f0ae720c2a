theorem dX5_init_0 : decode cX5_init 0 = .ok (.aload_n 0, 1) := by decide +kernel
theorem dX5_init_1 : decode cX5_init 1 = .ok (.invokespecial 3, 3) := by decide +kernel
theorem dX5_init_4 : decode cX5_init 4 = .ok (.aload_n 0, 1) := by decide +kernel
theorem dX5_init_5 : decode cX5_init 5 = .ok (.iconst 0, 1) := by decide +kernel
theorem dX5_init_6 : decode cX5_init 6 = .ok (.putfield 9, 3) := by decide +kernel
theorem dX5_init_9 : decode cX5_init 9 = .ok (.aload_n 0, 1) := by decide +kernel
theorem dX5_init_10 : decode cX5_init 10 = .ok (.iconst 0, 1) := by decide +kernel
theorem dX5_init_11 : decode cX5_init 11 = .ok (.putfield 15, 3) := by decide +kernel
theorem dX5_init_14 : decode cX5_init 14 = .ok (.aload_n 0, 1) := by decide +kernel
theorem dX5_init_15 : decode cX5_init 15 = .ok (.iconst 0, 1) := by decide +kernel
theorem dX5_init_16 : decode cX5_init 16 = .ok (.putfield 18, 3) := by decide +kernel
theorem dX5_init_19 : decode cX5_init 19 = .ok (.aload_n 0, 1) := by decide +kernel
theorem dX5_init_20 : decode cX5_init 20 = .ok (.iconst 0, 1) := by decide +kernel
theorem dX5_init_21 : decode cX5_init 21 = .ok (.putfield 21, 3) := by decide +kernel
theorem dX5_init_24 : decode cX5_init 24 = .ok (.aload_n 0, 1) := by decide +kernel
theorem dX5_init_25 : decode cX5_init 25 = .ok (.iconst 0, 1) := by decide +kernel
theorem dX5_init_26 : decode cX5_init 26 = .ok (.putfield 24, 3) := by decide +kernel
theorem dX5_init_29 : decode cX5_init 29 = .ok (.aload_n 0, 1) := by decide +kernel
theorem dX5_init_30 : decode cX5_init 30 = .ok (.aload_n 1, 1) := by decide +kernel
theorem dX5_init_31 : decode cX5_init 31 = .ok (.putfield 27, 3) := by decide +kernel
theorem dX5_init_34 : decode cX5_init 34 = .ok (.return_, 1) := by decide +kernel
theorem dX5_talk_0 : decode cX5_talk 0 = .ok (.aload_n 0, 1) := by decide +kernel
theorem dX5_talk_1 : decode cX5_talk 1 = .ok (.iload_n 2, 1) := by decide +kernel
theorem dX5_talk_2 : decode cX5_talk 2 = .ok (.putfield 9, 3) := by decide +kernel
theorem dX5_talk_5 : decode cX5_talk 5 = .ok (.aload_n 0, 1) := by decide +kernel
theorem dX5_talk_6 : decode cX5_talk 6 = .ok (.iload_n 3, 1) := by decide +kernel
theorem dX5_talk_7 : decode cX5_talk 7 = .ok (.putfield 15, 3) := by decide +kernel
theorem dX5_talk_10 : decode cX5_talk 10 = .ok (.aload_n 0, 1) := by decide +kernel
theorem dX5_talk_11 : decode cX5_talk 11 = .ok (.iload 4, 2) := by decide +kernel
theorem dX5_talk_13 : decode cX5_talk 13 = .ok (.bipush 6, 2) := by decide +kernel
theorem dX5_talk_15 : decode cX5_talk 15 = .ok (.invokestatic 31, 3) := by decide +kernel
theorem dX5_talk_18 : decode cX5_talk 18 = .ok (.putfield 18, 3) := by decide +kernel
theorem dX5_talk_21 : decode cX5_talk 21 = .ok (.aload_n 0, 1) := by decide +kernel
theorem dX5_talk_22 : decode cX5_talk 22 = .ok (.getfield 27, 3) := by decide +kernel
theorem dX5_talk_25 : decode cX5_talk 25 = .ok (.iconst 0, 1) := by decide +kernel
theorem dX5_talk_26 : decode cX5_talk 26 = .ok (.aaload, 1) := by decide +kernel
theorem dX5_talk_27 : decode cX5_talk 27 = .ok (.aload_n 1, 1) := by decide +kernel
theorem dX5_talk_28 : decode cX5_talk 28 = .ok (.invokevirtual 37, 3) := by decide +kernel
theorem dX5_talk_31 : decode cX5_talk 31 = .ok (.aload_n 0, 1) := by decide +kernel
theorem dX5_talk_32 : decode cX5_talk 32 = .ok (.aload_n 0, 1) := by decide +kernel
theorem dX5_talk_33 : decode cX5_talk 33 = .ok (.iconst 0, 1) := by decide +kernel
theorem dX5_talk_34 : decode cX5_talk 34 = .ok (.iconst 0, 1) := by decide +kernel
theorem dX5_talk_35 : decode cX5_talk 35 = .ok (.invokestatic 43, 3) := by decide +kernel
theorem dX5_talk_38 : decode cX5_talk 38 = .ok (.putfield 21, 3) := by decide +kernel
theorem dX5_talk_41 : decode cX5_talk 41 = .ok (.return_, 1) := by decide +kernel
theorem dX5_play_0 : decode cX5_play 0 = .ok (.aload_n 0, 1) := by decide +kernel
theorem dX5_play_1 : decode cX5_play 1 = .ok (.getfield 27, 3) := by decide +kernel
theorem dX5_play_4 : decode cX5_play 4 = .ok (.iload_n 1, 1) := by decide +kernel
theorem dX5_play_5 : decode cX5_play 5 = .ok (.aaload, 1) := by decide +kernel
theorem dX5_play_6 : decode cX5_play 6 = .ok (.astore_n 3, 1) := by decide +kernel
theorem dX5_play_7 : decode cX5_play 7 = .ok (.aload_n 0, 1) := by decide +kernel
theorem dX5_play_8 : decode cX5_play 8 = .ok (.getfield 27, 3) := by decide +kernel
theorem dX5_play_11 : decode cX5_play 11 = .ok (.iload_n 1, 1) := by decide +kernel
theorem dX5_play_12 : decode cX5_play 12 = .ok (.iconst 1, 1) := by decide +kernel
theorem dX5_play_13 : decode cX5_play 13 = .ok (.iadd, 1) := by decide +kernel
theorem dX5_play_14 : decode cX5_play 14 = .ok (.aaload, 1) := by decide +kernel
theorem dX5_play_15 : decode cX5_play 15 = .ok (.astore 4, 2) := by decide +kernel
theorem dX5_play_17 : decode cX5_play 17 = .ok (.aload 4, 2) := by decide +kernel
theorem dX5_play_19 : decode cX5_play 19 = .ok (.aload_n 3, 1) := by decide +kernel
theorem dX5_play_20 : decode cX5_play 20 = .ok (.bipush 8, 2) := by decide +kernel
theorem dX5_play_22 : decode cX5_play 22 = .ok (.invokevirtual 47, 3) := by decide +kernel
theorem dX5_play_25 : decode cX5_play 25 = .ok (.iload_n 1, 1) := by decide +kernel
theorem dX5_play_26 : decode cX5_play 26 = .ok (.aload_n 0, 1) := by decide +kernel
theorem dX5_play_27 : decode cX5_play 27 = .ok (.getfield 18, 3) := by decide +kernel
theorem dX5_play_30 : decode cX5_play 30 = .ok (.if_icmp .lt 12, 3) := by decide +kernel
theorem dX5_play_33 : decode cX5_play 33 = .ok (.iload_n 2, 1) := by decide +kernel
theorem dX5_play_34 : decode cX5_play 34 = .ok (.aload_n 0, 1) := by decide +kernel
theorem dX5_play_35 : decode cX5_play 35 = .ok (.aload 4, 2) := by decide +kernel
theorem dX5_play_37 : decode cX5_play 37 = .ok (.invokevirtual 51, 3) := by decide +kernel
theorem dX5_play_40 : decode cX5_play 40 = .ok (.ior, 1) := by decide +kernel
theorem dX5_play_41 : decode cX5_play 41 = .ok (.ireturn, 1) := by decide +kernel
theorem dX5_play_42 : decode cX5_play 42 = .ok (.iload_n 1, 1) := by decide +kernel
theorem dX5_play_43 : decode cX5_play 43 = .ok (.iconst 2, 1) := by decide +kernel
theorem dX5_play_44 : decode cX5_play 44 = .ok (.irem, 1) := by decide +kernel
theorem dX5_play_45 : decode cX5_play 45 = .ok (.ifCond .ne 7, 3) := by decide +kernel
theorem dX5_play_48 : decode cX5_play 48 = .ok (.iconst 1, 1) := by decide +kernel
theorem dX5_play_49 : decode cX5_play 49 = .ok (.goto 4, 3) := by decide +kernel
theorem dX5_play_52 : decode cX5_play 52 = .ok (.iconst 0, 1) := by decide +kernel
theorem dX5_play_53 : decode cX5_play 53 = .ok (.istore 5, 2) := by decide +kernel
theorem dX5_play_55 : decode cX5_play 55 = .ok (.aload_n 0, 1) := by decide +kernel
theorem dX5_play_56 : decode cX5_play 56 = .ok (.iload_n 1, 1) := by decide +kernel
theorem dX5_play_57 : decode cX5_play 57 = .ok (.iconst 1, 1) := by decide +kernel
theorem dX5_play_58 : decode cX5_play 58 = .ok (.iadd, 1) := by decide +kernel
theorem dX5_play_59 : decode cX5_play 59 = .ok (.iload_n 2, 1) := by decide +kernel
theorem dX5_play_60 : decode cX5_play 60 = .ok (.aload_n 0, 1) := by decide +kernel
theorem dX5_play_61 : decode cX5_play 61 = .ok (.aload 4, 2) := by decide +kernel
theorem dX5_play_63 : decode cX5_play 63 = .ok (.invokevirtual 55, 3) := by decide +kernel
theorem dX5_play_66 : decode cX5_play 66 = .ok (.invokevirtual 59, 3) := by decide +kernel
theorem dX5_play_69 : decode cX5_play 69 = .ok (.ior, 1) := by decide +kernel
theorem dX5_play_70 : decode cX5_play 70 = .ok (.invokestatic 43, 3) := by decide +kernel
theorem dX5_play_73 : decode cX5_play 73 = .ok (.istore 6, 2) := by decide +kernel
theorem dX5_play_75 : decode cX5_play 75 = .ok (.aload 4, 2) := by decide +kernel
theorem dX5_play_77 : decode cX5_play 77 = .ok (.aload_n 3, 1) := by decide +kernel
theorem dX5_play_78 : decode cX5_play 78 = .ok (.bipush 8, 2) := by decide +kernel
theorem dX5_play_80 : decode cX5_play 80 = .ok (.invokevirtual 47, 3) := by decide +kernel
theorem dX5_play_83 : decode cX5_play 83 = .ok (.aload_n 0, 1) := by decide +kernel
theorem dX5_play_84 : decode cX5_play 84 = .ok (.iload_n 1, 1) := by decide +kernel
theorem dX5_play_85 : decode cX5_play 85 = .ok (.iconst 1, 1) := by decide +kernel
theorem dX5_play_86 : decode cX5_play 86 = .ok (.iadd, 1) := by decide +kernel
theorem dX5_play_87 : decode cX5_play 87 = .ok (.iload_n 2, 1) := by decide +kernel
theorem dX5_play_88 : decode cX5_play 88 = .ok (.aload_n 0, 1) := by decide +kernel
theorem dX5_play_89 : decode cX5_play 89 = .ok (.aload 4, 2) := by decide +kernel
theorem dX5_play_91 : decode cX5_play 91 = .ok (.iload 5, 2) := by decide +kernel
theorem dX5_play_93 : decode cX5_play 93 = .ok (.ifCond .eq 10, 3) := by decide +kernel
theorem dX5_play_96 : decode cX5_play 96 = .ok (.aload_n 0, 1) := by decide +kernel
theorem dX5_play_97 : decode cX5_play 97 = .ok (.getfield 9, 3) := by decide +kernel
theorem dX5_play_100 : decode cX5_play 100 = .ok (.goto 7, 3) := by decide +kernel
theorem dX5_play_103 : decode cX5_play 103 = .ok (.aload_n 0, 1) := by decide +kernel
theorem dX5_play_104 : decode cX5_play 104 = .ok (.getfield 15, 3) := by decide +kernel
theorem dX5_play_107 : decode cX5_play 107 = .ok (.iconst 1, 1) := by decide +kernel
theorem dX5_play_108 : decode cX5_play 108 = .ok (.invokevirtual 63, 3) := by decide +kernel
theorem dX5_play_111 : decode cX5_play 111 = .ok (.invokevirtual 59, 3) := by decide +kernel
theorem dX5_play_114 : decode cX5_play 114 = .ok (.ior, 1) := by decide +kernel
theorem dX5_play_115 : decode cX5_play 115 = .ok (.invokestatic 43, 3) := by decide +kernel
theorem dX5_play_118 : decode cX5_play 118 = .ok (.istore 7, 2) := by decide +kernel
theorem dX5_play_120 : decode cX5_play 120 = .ok (.iload 7, 2) := by decide +kernel
theorem dX5_play_122 : decode cX5_play 122 = .ok (.iload 5, 2) := by decide +kernel
theorem dX5_play_124 : decode cX5_play 124 = .ok (.invokestatic 67, 3) := by decide +kernel
theorem dX5_play_127 : decode cX5_play 127 = .ok (.iload 6, 2) := by decide +kernel
theorem dX5_play_129 : decode cX5_play 129 = .ok (.iload 5, 2) := by decide +kernel
theorem dX5_play_131 : decode cX5_play 131 = .ok (.invokestatic 67, 3) := by decide +kernel
theorem dX5_play_134 : decode cX5_play 134 = .ok (.if_icmp .le 7, 3) := by decide +kernel
theorem dX5_play_137 : decode cX5_play 137 = .ok (.iconst 1, 1) := by decide +kernel
theorem dX5_play_138 : decode cX5_play 138 = .ok (.goto 4, 3) := by decide +kernel
theorem dX5_play_141 : decode cX5_play 141 = .ok (.iconst 0, 1) := by decide +kernel
theorem dX5_play_142 : decode cX5_play 142 = .ok (.istore 8, 2) := by decide +kernel
theorem dX5_play_144 : decode cX5_play 144 = .ok (.aload_n 0, 1) := by decide +kernel
theorem dX5_play_145 : decode cX5_play 145 = .ok (.iload 8, 2) := by decide +kernel
theorem dX5_play_147 : decode cX5_play 147 = .ok (.ifCond .eq 7, 3) := by decide +kernel
theorem dX5_play_150 : decode cX5_play 150 = .ok (.iconst 1, 1) := by decide +kernel
theorem dX5_play_151 : decode cX5_play 151 = .ok (.goto 4, 3) := by decide +kernel
theorem dX5_play_154 : decode cX5_play 154 = .ok (.iconst 0, 1) := by decide +kernel
theorem dX5_play_155 : decode cX5_play 155 = .ok (.putfield 24, 3) := by decide +kernel
theorem dX5_play_158 : decode cX5_play 158 = .ok (.iload 8, 2) := by decide +kernel
theorem dX5_play_160 : decode cX5_play 160 = .ok (.ifCond .eq 8, 3) := by decide +kernel
theorem dX5_play_163 : decode cX5_play 163 = .ok (.iload 7, 2) := by decide +kernel
theorem dX5_play_165 : decode cX5_play 165 = .ok (.goto 5, 3) := by decide +kernel
theorem dX5_play_168 : decode cX5_play 168 = .ok (.iload 6, 2) := by decide +kernel
theorem dX5_play_170 : decode cX5_play 170 = .ok (.ireturn, 1) := by decide +kernel
theorem dX5_stillness_0 : decode cX5_stillness 0 = .ok (.iconst 0, 1) := by decide +kernel
theorem dX5_stillness_1 : decode cX5_stillness 1 = .ok (.istore_n 2, 1) := by decide +kernel
theorem dX5_stillness_2 : decode cX5_stillness 2 = .ok (.iconst 0, 1) := by decide +kernel
theorem dX5_stillness_3 : decode cX5_stillness 3 = .ok (.istore_n 3, 1) := by decide +kernel
theorem dX5_stillness_4 : decode cX5_stillness 4 = .ok (.iload_n 3, 1) := by decide +kernel
theorem dX5_stillness_5 : decode cX5_stillness 5 = .ok (.iconst 4, 1) := by decide +kernel
theorem dX5_stillness_6 : decode cX5_stillness 6 = .ok (.if_icmp .ge 20, 3) := by decide +kernel
theorem dX5_stillness_9 : decode cX5_stillness 9 = .ok (.iload_n 2, 1) := by decide +kernel
theorem dX5_stillness_10 : decode cX5_stillness 10 = .ok (.aload_n 0, 1) := by decide +kernel
theorem dX5_stillness_11 : decode cX5_stillness 11 = .ok (.aload_n 1, 1) := by decide +kernel
theorem dX5_stillness_12 : decode cX5_stillness 12 = .ok (.invokevirtual 55, 3) := by decide +kernel
theorem dX5_stillness_15 : decode cX5_stillness 15 = .ok (.invokevirtual 59, 3) := by decide +kernel
theorem dX5_stillness_18 : decode cX5_stillness 18 = .ok (.ior, 1) := by decide +kernel
theorem dX5_stillness_19 : decode cX5_stillness 19 = .ok (.istore_n 2, 1) := by decide +kernel
theorem dX5_stillness_20 : decode cX5_stillness 20 = .ok (.iinc 3 1, 3) := by decide +kernel
theorem dX5_stillness_23 : decode cX5_stillness 23 = .ok (.goto (-19), 3) := by decide +kernel
theorem dX5_stillness_26 : decode cX5_stillness 26 = .ok (.iload_n 2, 1) := by decide +kernel
theorem dX5_stillness_27 : decode cX5_stillness 27 = .ok (.ireturn, 1) := by decide +kernel
theorem dX5_bit_0 : decode cX5_bit 0 = .ok (.iload_n 1, 1) := by decide +kernel
theorem dX5_bit_1 : decode cX5_bit 1 = .ok (.aload_n 0, 1) := by decide +kernel
theorem dX5_bit_2 : decode cX5_bit 2 = .ok (.getfield 9, 3) := by decide +kernel
theorem dX5_bit_5 : decode cX5_bit 5 = .ok (.if_icmp .ne 7, 3) := by decide +kernel
theorem dX5_bit_8 : decode cX5_bit 8 = .ok (.iconst 1, 1) := by decide +kernel
theorem dX5_bit_9 : decode cX5_bit 9 = .ok (.goto 16, 3) := by decide +kernel
theorem dX5_bit_12 : decode cX5_bit 12 = .ok (.iload_n 1, 1) := by decide +kernel
theorem dX5_bit_13 : decode cX5_bit 13 = .ok (.aload_n 0, 1) := by decide +kernel
theorem dX5_bit_14 : decode cX5_bit 14 = .ok (.getfield 15, 3) := by decide +kernel
theorem dX5_bit_17 : decode cX5_bit 17 = .ok (.if_icmp .ne 7, 3) := by decide +kernel
theorem dX5_bit_20 : decode cX5_bit 20 = .ok (.iconst 2, 1) := by decide +kernel
theorem dX5_bit_21 : decode cX5_bit 21 = .ok (.goto 4, 3) := by decide +kernel
theorem dX5_bit_24 : decode cX5_bit 24 = .ok (.iconst 0, 1) := by decide +kernel
theorem dX5_bit_25 : decode cX5_bit 25 = .ok (.ireturn, 1) := by decide +kernel
theorem dX5_liking_0 : decode cX5_liking 0 = .ok (.iload_n 1, 1) := by decide +kernel
theorem dX5_liking_1 : decode cX5_liking 1 = .ok (.ifCond .eq 9, 3) := by decide +kernel
theorem dX5_liking_4 : decode cX5_liking 4 = .ok (.iload_n 0, 1) := by decide +kernel
theorem dX5_liking_5 : decode cX5_liking 5 = .ok (.iconst 1, 1) := by decide +kernel
theorem dX5_liking_6 : decode cX5_liking 6 = .ok (.iand, 1) := by decide +kernel
theorem dX5_liking_7 : decode cX5_liking 7 = .ok (.goto 6, 3) := by decide +kernel
theorem dX5_liking_10 : decode cX5_liking 10 = .ok (.iload_n 0, 1) := by decide +kernel
theorem dX5_liking_11 : decode cX5_liking 11 = .ok (.iconst 1, 1) := by decide +kernel
theorem dX5_liking_12 : decode cX5_liking 12 = .ok (.ishr, 1) := by decide +kernel
theorem dX5_liking_13 : decode cX5_liking 13 = .ok (.istore_n 2, 1) := by decide +kernel
theorem dX5_liking_14 : decode cX5_liking 14 = .ok (.iload_n 1, 1) := by decide +kernel
theorem dX5_liking_15 : decode cX5_liking 15 = .ok (.ifCond .eq 9, 3) := by decide +kernel
theorem dX5_liking_18 : decode cX5_liking 18 = .ok (.iload_n 0, 1) := by decide +kernel
theorem dX5_liking_19 : decode cX5_liking 19 = .ok (.iconst 1, 1) := by decide +kernel
theorem dX5_liking_20 : decode cX5_liking 20 = .ok (.ishr, 1) := by decide +kernel
theorem dX5_liking_21 : decode cX5_liking 21 = .ok (.goto 6, 3) := by decide +kernel
theorem dX5_liking_24 : decode cX5_liking 24 = .ok (.iload_n 0, 1) := by decide +kernel
theorem dX5_liking_25 : decode cX5_liking 25 = .ok (.iconst 1, 1) := by decide +kernel
theorem dX5_liking_26 : decode cX5_liking 26 = .ok (.iand, 1) := by decide +kernel
theorem dX5_liking_27 : decode cX5_liking 27 = .ok (.istore_n 3, 1) := by decide +kernel
theorem dX5_liking_28 : decode cX5_liking 28 = .ok (.iload_n 2, 1) := by decide +kernel
theorem dX5_liking_29 : decode cX5_liking 29 = .ok (.ifCond .ne 7, 3) := by decide +kernel
theorem dX5_liking_32 : decode cX5_liking 32 = .ok (.iconst 2, 1) := by decide +kernel
theorem dX5_liking_33 : decode cX5_liking 33 = .ok (.goto 4, 3) := by decide +kernel
theorem dX5_liking_36 : decode cX5_liking 36 = .ok (.iconst 0, 1) := by decide +kernel
theorem dX5_liking_37 : decode cX5_liking 37 = .ok (.iload_n 3, 1) := by decide +kernel
theorem dX5_liking_38 : decode cX5_liking 38 = .ok (.iadd, 1) := by decide +kernel
theorem dX5_liking_39 : decode cX5_liking 39 = .ok (.ireturn, 1) := by decide +kernel
