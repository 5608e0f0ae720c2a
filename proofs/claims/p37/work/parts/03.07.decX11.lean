theorem dX11_init_0 : decode cX11_init 0 = .ok (.aload_n 0, 1) := by decide +kernel
theorem dX11_init_1 : decode cX11_init 1 = .ok (.invokespecial 1, 3) := by decide +kernel
theorem dX11_init_4 : decode cX11_init 4 = .ok (.aload_n 0, 1) := by decide +kernel
theorem dX11_init_5 : decode cX11_init 5 = .ok (.new 7, 3) := by decide +kernel
theorem dX11_init_8 : decode cX11_init 8 = .ok (.dup, 1) := by decide +kernel
theorem dX11_init_9 : decode cX11_init 9 = .ok (.invokespecial 9, 3) := by decide +kernel
theorem dX11_init_12 : decode cX11_init 12 = .ok (.putfield 10, 3) := by decide +kernel
theorem dX11_init_15 : decode cX11_init 15 = .ok (.aload_n 0, 1) := by decide +kernel
theorem dX11_init_16 : decode cX11_init 16 = .ok (.new 16, 3) := by decide +kernel
theorem dX11_init_19 : decode cX11_init 19 = .ok (.dup, 1) := by decide +kernel
theorem dX11_init_20 : decode cX11_init 20 = .ok (.invokespecial 18, 3) := by decide +kernel
theorem dX11_init_23 : decode cX11_init 23 = .ok (.putfield 19, 3) := by decide +kernel
theorem dX11_init_26 : decode cX11_init 26 = .ok (.aload_n 0, 1) := by decide +kernel
theorem dX11_init_27 : decode cX11_init 27 = .ok (.new 23, 3) := by decide +kernel
theorem dX11_init_30 : decode cX11_init 30 = .ok (.dup, 1) := by decide +kernel
theorem dX11_init_31 : decode cX11_init 31 = .ok (.invokespecial 25, 3) := by decide +kernel
theorem dX11_init_34 : decode cX11_init 34 = .ok (.putfield 26, 3) := by decide +kernel
theorem dX11_init_37 : decode cX11_init 37 = .ok (.aload_n 0, 1) := by decide +kernel
theorem dX11_init_38 : decode cX11_init 38 = .ok (.bipush 8, 2) := by decide +kernel
theorem dX11_init_40 : decode cX11_init 40 = .ok (.newarray .int, 2) := by decide +kernel
theorem dX11_init_42 : decode cX11_init 42 = .ok (.putfield 30, 3) := by decide +kernel
theorem dX11_init_45 : decode cX11_init 45 = .ok (.aload_n 0, 1) := by decide +kernel
theorem dX11_init_46 : decode cX11_init 46 = .ok (.iconst (-1), 1) := by decide +kernel
theorem dX11_init_47 : decode cX11_init 47 = .ok (.putfield 34, 3) := by decide +kernel
theorem dX11_init_50 : decode cX11_init 50 = .ok (.new 38, 3) := by decide +kernel
theorem dX11_init_53 : decode cX11_init 53 = .ok (.dup, 1) := by decide +kernel
theorem dX11_init_54 : decode cX11_init 54 = .ok (.invokespecial 40, 3) := by decide +kernel
theorem dX11_init_57 : decode cX11_init 57 = .ok (.astore_n 1, 1) := by decide +kernel
theorem dX11_init_58 : decode cX11_init 58 = .ok (.new 41, 3) := by decide +kernel
theorem dX11_init_61 : decode cX11_init 61 = .ok (.dup, 1) := by decide +kernel
theorem dX11_init_62 : decode cX11_init 62 = .ok (.invokespecial 43, 3) := by decide +kernel
theorem dX11_init_65 : decode cX11_init 65 = .ok (.astore_n 2, 1) := by decide +kernel
theorem dX11_init_66 : decode cX11_init 66 = .ok (.new 44, 3) := by decide +kernel
theorem dX11_init_69 : decode cX11_init 69 = .ok (.dup, 1) := by decide +kernel
theorem dX11_init_70 : decode cX11_init 70 = .ok (.invokespecial 46, 3) := by decide +kernel
theorem dX11_init_73 : decode cX11_init 73 = .ok (.astore_n 3, 1) := by decide +kernel
theorem dX11_init_74 : decode cX11_init 74 = .ok (.bipush 14, 2) := by decide +kernel
theorem dX11_init_76 : decode cX11_init 76 = .ok (.anewarray 47, 3) := by decide +kernel
theorem dX11_init_79 : decode cX11_init 79 = .ok (.astore 4, 2) := by decide +kernel
theorem dX11_init_81 : decode cX11_init 81 = .ok (.iconst 0, 1) := by decide +kernel
theorem dX11_init_82 : decode cX11_init 82 = .ok (.istore 5, 2) := by decide +kernel
theorem dX11_init_84 : decode cX11_init 84 = .ok (.iload 5, 2) := by decide +kernel
theorem dX11_init_86 : decode cX11_init 86 = .ok (.aload 4, 2) := by decide +kernel
theorem dX11_init_88 : decode cX11_init 88 = .ok (.arraylength, 1) := by decide +kernel
theorem dX11_init_89 : decode cX11_init 89 = .ok (.if_icmp .ge 23, 3) := by decide +kernel
theorem dX11_init_92 : decode cX11_init 92 = .ok (.aload 4, 2) := by decide +kernel
theorem dX11_init_94 : decode cX11_init 94 = .ok (.iload 5, 2) := by decide +kernel
theorem dX11_init_96 : decode cX11_init 96 = .ok (.new 47, 3) := by decide +kernel
theorem dX11_init_99 : decode cX11_init 99 = .ok (.dup, 1) := by decide +kernel
theorem dX11_init_100 : decode cX11_init 100 = .ok (.aload_n 1, 1) := by decide +kernel
theorem dX11_init_101 : decode cX11_init 101 = .ok (.aload_n 2, 1) := by decide +kernel
theorem dX11_init_102 : decode cX11_init 102 = .ok (.invokespecial 49, 3) := by decide +kernel
theorem dX11_init_105 : decode cX11_init 105 = .ok (.aastore, 1) := by decide +kernel
theorem dX11_init_106 : decode cX11_init 106 = .ok (.iinc 5 1, 3) := by decide +kernel
theorem dX11_init_109 : decode cX11_init 109 = .ok (.goto (-25), 3) := by decide +kernel
theorem dX11_init_112 : decode cX11_init 112 = .ok (.aload_n 0, 1) := by decide +kernel
theorem dX11_init_113 : decode cX11_init 113 = .ok (.aload_n 1, 1) := by decide +kernel
theorem dX11_init_114 : decode cX11_init 114 = .ok (.putfield 52, 3) := by decide +kernel
theorem dX11_init_117 : decode cX11_init 117 = .ok (.aload_n 0, 1) := by decide +kernel
theorem dX11_init_118 : decode cX11_init 118 = .ok (.aload_n 2, 1) := by decide +kernel
theorem dX11_init_119 : decode cX11_init 119 = .ok (.putfield 56, 3) := by decide +kernel
theorem dX11_init_122 : decode cX11_init 122 = .ok (.aload_n 0, 1) := by decide +kernel
theorem dX11_init_123 : decode cX11_init 123 = .ok (.aload_n 3, 1) := by decide +kernel
theorem dX11_init_124 : decode cX11_init 124 = .ok (.putfield 60, 3) := by decide +kernel
theorem dX11_init_127 : decode cX11_init 127 = .ok (.aload_n 0, 1) := by decide +kernel
theorem dX11_init_128 : decode cX11_init 128 = .ok (.new 47, 3) := by decide +kernel
theorem dX11_init_131 : decode cX11_init 131 = .ok (.dup, 1) := by decide +kernel
theorem dX11_init_132 : decode cX11_init 132 = .ok (.aload_n 1, 1) := by decide +kernel
theorem dX11_init_133 : decode cX11_init 133 = .ok (.aload_n 2, 1) := by decide +kernel
theorem dX11_init_134 : decode cX11_init 134 = .ok (.invokespecial 49, 3) := by decide +kernel
theorem dX11_init_137 : decode cX11_init 137 = .ok (.putfield 64, 3) := by decide +kernel
theorem dX11_init_140 : decode cX11_init 140 = .ok (.aload_n 0, 1) := by decide +kernel
theorem dX11_init_141 : decode cX11_init 141 = .ok (.new 47, 3) := by decide +kernel
theorem dX11_init_144 : decode cX11_init 144 = .ok (.dup, 1) := by decide +kernel
theorem dX11_init_145 : decode cX11_init 145 = .ok (.aload_n 1, 1) := by decide +kernel
theorem dX11_init_146 : decode cX11_init 146 = .ok (.aload_n 2, 1) := by decide +kernel
theorem dX11_init_147 : decode cX11_init 147 = .ok (.invokespecial 49, 3) := by decide +kernel
theorem dX11_init_150 : decode cX11_init 150 = .ok (.putfield 68, 3) := by decide +kernel
theorem dX11_init_153 : decode cX11_init 153 = .ok (.aload_n 0, 1) := by decide +kernel
theorem dX11_init_154 : decode cX11_init 154 = .ok (.new 47, 3) := by decide +kernel
theorem dX11_init_157 : decode cX11_init 157 = .ok (.dup, 1) := by decide +kernel
theorem dX11_init_158 : decode cX11_init 158 = .ok (.aload_n 1, 1) := by decide +kernel
theorem dX11_init_159 : decode cX11_init 159 = .ok (.aload_n 2, 1) := by decide +kernel
theorem dX11_init_160 : decode cX11_init 160 = .ok (.invokespecial 49, 3) := by decide +kernel
theorem dX11_init_163 : decode cX11_init 163 = .ok (.putfield 71, 3) := by decide +kernel
theorem dX11_init_166 : decode cX11_init 166 = .ok (.aload_n 0, 1) := by decide +kernel
theorem dX11_init_167 : decode cX11_init 167 = .ok (.new 47, 3) := by decide +kernel
theorem dX11_init_170 : decode cX11_init 170 = .ok (.dup, 1) := by decide +kernel
theorem dX11_init_171 : decode cX11_init 171 = .ok (.aload_n 1, 1) := by decide +kernel
theorem dX11_init_172 : decode cX11_init 172 = .ok (.aload_n 2, 1) := by decide +kernel
theorem dX11_init_173 : decode cX11_init 173 = .ok (.invokespecial 49, 3) := by decide +kernel
theorem dX11_init_176 : decode cX11_init 176 = .ok (.putfield 74, 3) := by decide +kernel
theorem dX11_init_179 : decode cX11_init 179 = .ok (.aload_n 0, 1) := by decide +kernel
theorem dX11_init_180 : decode cX11_init 180 = .ok (.new 77, 3) := by decide +kernel
theorem dX11_init_183 : decode cX11_init 183 = .ok (.dup, 1) := by decide +kernel
theorem dX11_init_184 : decode cX11_init 184 = .ok (.aload 4, 2) := by decide +kernel
theorem dX11_init_186 : decode cX11_init 186 = .ok (.aload_n 3, 1) := by decide +kernel
theorem dX11_init_187 : decode cX11_init 187 = .ok (.invokespecial 79, 3) := by decide +kernel
theorem dX11_init_190 : decode cX11_init 190 = .ok (.putfield 82, 3) := by decide +kernel
theorem dX11_init_193 : decode cX11_init 193 = .ok (.aload_n 0, 1) := by decide +kernel
theorem dX11_init_194 : decode cX11_init 194 = .ok (.new 86, 3) := by decide +kernel
theorem dX11_init_197 : decode cX11_init 197 = .ok (.dup, 1) := by decide +kernel
theorem dX11_init_198 : decode cX11_init 198 = .ok (.aload 4, 2) := by decide +kernel
theorem dX11_init_200 : decode cX11_init 200 = .ok (.invokespecial 88, 3) := by decide +kernel
theorem dX11_init_203 : decode cX11_init 203 = .ok (.putfield 91, 3) := by decide +kernel
theorem dX11_init_206 : decode cX11_init 206 = .ok (.aload_n 0, 1) := by decide +kernel
theorem dX11_init_207 : decode cX11_init 207 = .ok (.new 95, 3) := by decide +kernel
theorem dX11_init_210 : decode cX11_init 210 = .ok (.dup, 1) := by decide +kernel
theorem dX11_init_211 : decode cX11_init 211 = .ok (.aload 4, 2) := by decide +kernel
theorem dX11_init_213 : decode cX11_init 213 = .ok (.aload_n 3, 1) := by decide +kernel
theorem dX11_init_214 : decode cX11_init 214 = .ok (.aload_n 1, 1) := by decide +kernel
theorem dX11_init_215 : decode cX11_init 215 = .ok (.invokespecial 97, 3) := by decide +kernel
theorem dX11_init_218 : decode cX11_init 218 = .ok (.putfield 100, 3) := by decide +kernel
theorem dX11_init_221 : decode cX11_init 221 = .ok (.return_, 1) := by decide +kernel
theorem dX11_person_0 : decode cX11_person 0 = .ok (.iload_n 1, 1) := by decide +kernel
theorem dX11_person_1 : decode cX11_person 1 = .ok (.invokestatic 104, 3) := by decide +kernel
theorem dX11_person_4 : decode cX11_person 4 = .ok (.ifCond .ne 5, 3) := by decide +kernel
theorem dX11_person_7 : decode cX11_person 7 = .ok (.iconst (-1), 1) := by decide +kernel
theorem dX11_person_8 : decode cX11_person 8 = .ok (.ireturn, 1) := by decide +kernel
theorem dX11_person_9 : decode cX11_person 9 = .ok (.aload_n 0, 1) := by decide +kernel
theorem dX11_person_10 : decode cX11_person 10 = .ok (.getfield 52, 3) := by decide +kernel
theorem dX11_person_13 : decode cX11_person 13 = .ok (.getfield 108, 3) := by decide +kernel
theorem dX11_person_16 : decode cX11_person 16 = .ok (.bipush 8, 2) := by decide +kernel
theorem dX11_person_18 : decode cX11_person 18 = .ok (.if_icmp .lt 6, 3) := by decide +kernel
theorem dX11_person_21 : decode cX11_person 21 = .ok (.bipush (-3), 2) := by decide +kernel
theorem dX11_person_23 : decode cX11_person 23 = .ok (.ireturn, 1) := by decide +kernel
theorem dX11_person_24 : decode cX11_person 24 = .ok (.aload_n 0, 1) := by decide +kernel
theorem dX11_person_25 : decode cX11_person 25 = .ok (.iload_n 1, 1) := by decide +kernel
theorem dX11_person_26 : decode cX11_person 26 = .ok (.bipush 6, 2) := by decide +kernel
theorem dX11_person_28 : decode cX11_person 28 = .ok (.iconst 0, 1) := by decide +kernel
theorem dX11_person_29 : decode cX11_person 29 = .ok (.invokevirtual 111, 3) := by decide +kernel
theorem dX11_person_32 : decode cX11_person 32 = .ok (.ireturn, 1) := by decide +kernel
theorem dX11_people_0 : decode cX11_people 0 = .ok (.iload_n 1, 1) := by decide +kernel
theorem dX11_people_1 : decode cX11_people 1 = .ok (.invokestatic 115, 3) := by decide +kernel
theorem dX11_people_4 : decode cX11_people 4 = .ok (.ifCond .eq 14, 3) := by decide +kernel
theorem dX11_people_7 : decode cX11_people 7 = .ok (.iload_n 3, 1) := by decide +kernel
theorem dX11_people_8 : decode cX11_people 8 = .ok (.iconst 1, 1) := by decide +kernel
theorem dX11_people_9 : decode cX11_people 9 = .ok (.if_icmp .lt 9, 3) := by decide +kernel
theorem dX11_people_12 : decode cX11_people 12 = .ok (.iload_n 3, 1) := by decide +kernel
theorem dX11_people_13 : decode cX11_people 13 = .ok (.bipush 8, 2) := by decide +kernel
theorem dX11_people_15 : decode cX11_people 15 = .ok (.if_icmp .le 5, 3) := by decide +kernel
theorem dX11_people_18 : decode cX11_people 18 = .ok (.iconst (-1), 1) := by decide +kernel
theorem dX11_people_19 : decode cX11_people 19 = .ok (.ireturn, 1) := by decide +kernel
theorem dX11_people_20 : decode cX11_people 20 = .ok (.aload_n 0, 1) := by decide +kernel
theorem dX11_people_21 : decode cX11_people 21 = .ok (.getfield 19, 3) := by decide +kernel
theorem dX11_people_24 : decode cX11_people 24 = .ok (.iload_n 1, 1) := by decide +kernel
theorem dX11_people_25 : decode cX11_people 25 = .ok (.invokevirtual 118, 3) := by decide +kernel
theorem dX11_people_28 : decode cX11_people 28 = .ok (.ifCond .eq 5, 3) := by decide +kernel
theorem dX11_people_31 : decode cX11_people 31 = .ok (.iconst 0, 1) := by decide +kernel
theorem dX11_people_32 : decode cX11_people 32 = .ok (.ireturn, 1) := by decide +kernel
theorem dX11_people_33 : decode cX11_people 33 = .ok (.aload_n 0, 1) := by decide +kernel
theorem dX11_people_34 : decode cX11_people 34 = .ok (.getfield 19, 3) := by decide +kernel
theorem dX11_people_37 : decode cX11_people 37 = .ok (.iload_n 1, 1) := by decide +kernel
theorem dX11_people_38 : decode cX11_people 38 = .ok (.iconst 1, 1) := by decide +kernel
theorem dX11_people_39 : decode cX11_people 39 = .ok (.invokevirtual 121, 3) := by decide +kernel
theorem dX11_people_42 : decode cX11_people 42 = .ok (.ifCond .ne 6, 3) := by decide +kernel
theorem dX11_people_45 : decode cX11_people 45 = .ok (.bipush (-12), 2) := by decide +kernel
theorem dX11_people_47 : decode cX11_people 47 = .ok (.ireturn, 1) := by decide +kernel
theorem dX11_people_48 : decode cX11_people 48 = .ok (.iconst 0, 1) := by decide +kernel
theorem dX11_people_49 : decode cX11_people 49 = .ok (.istore 4, 2) := by decide +kernel
theorem dX11_people_51 : decode cX11_people 51 = .ok (.iload 4, 2) := by decide +kernel
theorem dX11_people_53 : decode cX11_people 53 = .ok (.iload_n 3, 1) := by decide +kernel
theorem dX11_people_54 : decode cX11_people 54 = .ok (.if_icmp .ge 31, 3) := by decide +kernel
theorem dX11_people_57 : decode cX11_people 57 = .ok (.iload_n 2, 1) := by decide +kernel
theorem dX11_people_58 : decode cX11_people 58 = .ok (.ifCond .lt 27, 3) := by decide +kernel
theorem dX11_people_61 : decode cX11_people 61 = .ok (.aload_n 0, 1) := by decide +kernel
theorem dX11_people_62 : decode cX11_people 62 = .ok (.iload_n 1, 1) := by decide +kernel
theorem dX11_people_63 : decode cX11_people 63 = .ok (.iload_n 2, 1) := by decide +kernel
theorem dX11_people_64 : decode cX11_people 64 = .ok (.i2l, 1) := by decide +kernel
theorem dX11_people_65 : decode cX11_people 65 = .ok (.ldc2_w 125, 3) := by decide +kernel
theorem dX11_people_68 : decode cX11_people 68 = .ok (.iload 4, 2) := by decide +kernel
theorem dX11_people_70 : decode cX11_people 70 = .ok (.i2l, 1) := by decide +kernel
theorem dX11_people_71 : decode cX11_people 71 = .ok (.lmul, 1) := by decide +kernel
theorem dX11_people_72 : decode cX11_people 72 = .ok (.ladd, 1) := by decide +kernel
theorem dX11_people_73 : decode cX11_people 73 = .ok (.invokevirtual 127, 3) := by decide +kernel
theorem dX11_people_76 : decode cX11_people 76 = .ok (.ifCond .eq 9, 3) := by decide +kernel
theorem dX11_people_79 : decode cX11_people 79 = .ok (.iinc 4 1, 3) := by decide +kernel
theorem dX11_people_82 : decode cX11_people 82 = .ok (.goto (-31), 3) := by decide +kernel
theorem dX11_people_85 : decode cX11_people 85 = .ok (.iload 4, 2) := by decide +kernel
theorem dX11_people_87 : decode cX11_people 87 = .ok (.ireturn, 1) := by decide +kernel
theorem dX11_mend_0 : decode cX11_mend 0 = .ok (.aload_n 0, 1) := by decide +kernel
theorem dX11_mend_1 : decode cX11_mend 1 = .ok (.iload_n 1, 1) := by decide +kernel
theorem dX11_mend_2 : decode cX11_mend 2 = .ok (.iload_n 2, 1) := by decide +kernel
theorem dX11_mend_3 : decode cX11_mend 3 = .ok (.invokevirtual 131, 3) := by decide +kernel
theorem dX11_mend_6 : decode cX11_mend 6 = .ok (.ifCond .eq 21, 3) := by decide +kernel
theorem dX11_mend_9 : decode cX11_mend 9 = .ok (.iload_n 3, 1) := by decide +kernel
theorem dX11_mend_10 : decode cX11_mend 10 = .ok (.getstatic 134, 3) := by decide +kernel
theorem dX11_mend_13 : decode cX11_mend 13 = .ok (.iload_n 2, 1) := by decide +kernel
theorem dX11_mend_14 : decode cX11_mend 14 = .ok (.iaload, 1) := by decide +kernel
theorem dX11_mend_15 : decode cX11_mend 15 = .ok (.if_icmp .lt 12, 3) := by decide +kernel
theorem dX11_mend_18 : decode cX11_mend 18 = .ok (.iload_n 3, 1) := by decide +kernel
theorem dX11_mend_19 : decode cX11_mend 19 = .ok (.getstatic 137, 3) := by decide +kernel
theorem dX11_mend_22 : decode cX11_mend 22 = .ok (.iload_n 2, 1) := by decide +kernel
theorem dX11_mend_23 : decode cX11_mend 23 = .ok (.iaload, 1) := by decide +kernel
theorem dX11_mend_24 : decode cX11_mend 24 = .ok (.if_icmp .le 5, 3) := by decide +kernel
theorem dX11_mend_27 : decode cX11_mend 27 = .ok (.iconst (-1), 1) := by decide +kernel
theorem dX11_mend_28 : decode cX11_mend 28 = .ok (.ireturn, 1) := by decide +kernel
theorem dX11_mend_29 : decode cX11_mend 29 = .ok (.aload_n 0, 1) := by decide +kernel
theorem dX11_mend_30 : decode cX11_mend 30 = .ok (.iload_n 1, 1) := by decide +kernel
theorem dX11_mend_31 : decode cX11_mend 31 = .ok (.iload_n 2, 1) := by decide +kernel
theorem dX11_mend_32 : decode cX11_mend 32 = .ok (.invokevirtual 140, 3) := by decide +kernel
theorem dX11_mend_35 : decode cX11_mend 35 = .ok (.istore 4, 2) := by decide +kernel
theorem dX11_mend_37 : decode cX11_mend 37 = .ok (.iload 4, 2) := by decide +kernel
theorem dX11_mend_39 : decode cX11_mend 39 = .ok (.iload_n 3, 1) := by decide +kernel
theorem dX11_mend_40 : decode cX11_mend 40 = .ok (.if_icmp .eq 22, 3) := by decide +kernel
theorem dX11_mend_43 : decode cX11_mend 43 = .ok (.aload_n 0, 1) := by decide +kernel
theorem dX11_mend_44 : decode cX11_mend 44 = .ok (.getfield 10, 3) := by decide +kernel
theorem dX11_mend_47 : decode cX11_mend 47 = .ok (.iload_n 1, 1) := by decide +kernel
theorem dX11_mend_48 : decode cX11_mend 48 = .ok (.iload_n 2, 1) := by decide +kernel
theorem dX11_mend_49 : decode cX11_mend 49 = .ok (.iload 4, 2) := by decide +kernel
theorem dX11_mend_51 : decode cX11_mend 51 = .ok (.iload_n 3, 1) := by decide +kernel
theorem dX11_mend_52 : decode cX11_mend 52 = .ok (.invokevirtual 144, 3) := by decide +kernel
theorem dX11_mend_55 : decode cX11_mend 55 = .ok (.aload_n 0, 1) := by decide +kernel
theorem dX11_mend_56 : decode cX11_mend 56 = .ok (.iload_n 1, 1) := by decide +kernel
theorem dX11_mend_57 : decode cX11_mend 57 = .ok (.iload_n 2, 1) := by decide +kernel
theorem dX11_mend_58 : decode cX11_mend 58 = .ok (.iload_n 3, 1) := by decide +kernel
theorem dX11_mend_59 : decode cX11_mend 59 = .ok (.invokevirtual 148, 3) := by decide +kernel
theorem dX11_mend_62 : decode cX11_mend 62 = .ok (.iload 4, 2) := by decide +kernel
theorem dX11_mend_64 : decode cX11_mend 64 = .ok (.ireturn, 1) := by decide +kernel
theorem dX11_of_0 : decode cX11_of 0 = .ok (.aload_n 0, 1) := by decide +kernel
theorem dX11_of_1 : decode cX11_of 1 = .ok (.iload_n 1, 1) := by decide +kernel
theorem dX11_of_2 : decode cX11_of 2 = .ok (.iload_n 2, 1) := by decide +kernel
theorem dX11_of_3 : decode cX11_of 3 = .ok (.invokevirtual 131, 3) := by decide +kernel
theorem dX11_of_6 : decode cX11_of 6 = .ok (.ifCond .eq 12, 3) := by decide +kernel
theorem dX11_of_9 : decode cX11_of 9 = .ok (.aload_n 0, 1) := by decide +kernel
theorem dX11_of_10 : decode cX11_of 10 = .ok (.iload_n 1, 1) := by decide +kernel
theorem dX11_of_11 : decode cX11_of 11 = .ok (.iload_n 2, 1) := by decide +kernel
theorem dX11_of_12 : decode cX11_of 12 = .ok (.invokevirtual 140, 3) := by decide +kernel
theorem dX11_of_15 : decode cX11_of 15 = .ok (.goto 4, 3) := by decide +kernel
theorem dX11_of_18 : decode cX11_of 18 = .ok (.iconst (-1), 1) := by decide +kernel
theorem dX11_of_19 : decode cX11_of 19 = .ok (.ireturn, 1) := by decide +kernel
theorem dX11_feed_0 : decode cX11_feed 0 = .ok (.iload_n 1, 1) := by decide +kernel
theorem dX11_feed_1 : decode cX11_feed 1 = .ok (.ifCond .lt 10, 3) := by decide +kernel
theorem dX11_feed_4 : decode cX11_feed 4 = .ok (.iload_n 1, 1) := by decide +kernel
theorem dX11_feed_5 : decode cX11_feed 5 = .ok (.sipush 255, 3) := by decide +kernel
theorem dX11_feed_8 : decode cX11_feed 8 = .ok (.if_icmp .le 5, 3) := by decide +kernel
theorem dX11_feed_11 : decode cX11_feed 11 = .ok (.iconst (-1), 1) := by decide +kernel
theorem dX11_feed_12 : decode cX11_feed 12 = .ok (.ireturn, 1) := by decide +kernel
theorem dX11_feed_13 : decode cX11_feed 13 = .ok (.aload_n 0, 1) := by decide +kernel
theorem dX11_feed_14 : decode cX11_feed 14 = .ok (.getfield 56, 3) := by decide +kernel
theorem dX11_feed_17 : decode cX11_feed 17 = .ok (.iload_n 1, 1) := by decide +kernel
theorem dX11_feed_18 : decode cX11_feed 18 = .ok (.invokevirtual 152, 3) := by decide +kernel
theorem dX11_feed_21 : decode cX11_feed 21 = .ok (.ireturn, 1) := by decide +kernel
theorem dX11_law_0 : decode cX11_law 0 = .ok (.aload_n 0, 1) := by decide +kernel
theorem dX11_law_1 : decode cX11_law 1 = .ok (.getfield 56, 3) := by decide +kernel
theorem dX11_law_4 : decode cX11_law 4 = .ok (.invokevirtual 156, 3) := by decide +kernel
theorem dX11_law_7 : decode cX11_law 7 = .ok (.ireturn, 1) := by decide +kernel
theorem dX11_loud_0 : decode cX11_loud 0 = .ok (.aload_n 0, 1) := by decide +kernel
theorem dX11_loud_1 : decode cX11_loud 1 = .ok (.getfield 52, 3) := by decide +kernel
theorem dX11_loud_4 : decode cX11_loud 4 = .ok (.iload_n 1, 1) := by decide +kernel
theorem dX11_loud_5 : decode cX11_loud 5 = .ok (.invokevirtual 160, 3) := by decide +kernel
theorem dX11_loud_8 : decode cX11_loud 8 = .ok (.ifCond .ne 5, 3) := by decide +kernel
theorem dX11_loud_11 : decode cX11_loud 11 = .ok (.iconst (-1), 1) := by decide +kernel
theorem dX11_loud_12 : decode cX11_loud 12 = .ok (.ireturn, 1) := by decide +kernel
theorem dX11_loud_13 : decode cX11_loud 13 = .ok (.aload_n 0, 1) := by decide +kernel
theorem dX11_loud_14 : decode cX11_loud 14 = .ok (.getfield 68, 3) := by decide +kernel
theorem dX11_loud_17 : decode cX11_loud 17 = .ok (.aload_n 0, 1) := by decide +kernel
theorem dX11_loud_18 : decode cX11_loud 18 = .ok (.getfield 64, 3) := by decide +kernel
theorem dX11_loud_21 : decode cX11_loud 21 = .ok (.invokevirtual 163, 3) := by decide +kernel
theorem dX11_loud_24 : decode cX11_loud 24 = .ok (.aload_n 0, 1) := by decide +kernel
theorem dX11_loud_25 : decode cX11_loud 25 = .ok (.getfield 56, 3) := by decide +kernel
theorem dX11_loud_28 : decode cX11_loud 28 = .ok (.aload_n 0, 1) := by decide +kernel
theorem dX11_loud_29 : decode cX11_loud 29 = .ok (.getfield 68, 3) := by decide +kernel
theorem dX11_loud_32 : decode cX11_loud 32 = .ok (.iload_n 1, 1) := by decide +kernel
theorem dX11_loud_33 : decode cX11_loud 33 = .ok (.invokevirtual 167, 3) := by decide +kernel
theorem dX11_loud_36 : decode cX11_loud 36 = .ok (.ireturn, 1) := by decide +kernel
theorem dX11_day_0 : decode cX11_day 0 = .ok (.iload_n 1, 1) := by decide +kernel
theorem dX11_day_1 : decode cX11_day 1 = .ok (.invokestatic 115, 3) := by decide +kernel
theorem dX11_day_4 : decode cX11_day 4 = .ok (.ifCond .eq 22, 3) := by decide +kernel
theorem dX11_day_7 : decode cX11_day 7 = .ok (.iload_n 2, 1) := by decide +kernel
theorem dX11_day_8 : decode cX11_day 8 = .ok (.ifCond .lt 18, 3) := by decide +kernel
theorem dX11_day_11 : decode cX11_day 11 = .ok (.iload_n 2, 1) := by decide +kernel
theorem dX11_day_12 : decode cX11_day 12 = .ok (.bipush 24, 2) := by decide +kernel
theorem dX11_day_14 : decode cX11_day 14 = .ok (.if_icmp .gt 12, 3) := by decide +kernel
theorem dX11_day_17 : decode cX11_day 17 = .ok (.iload_n 3, 1) := by decide +kernel
theorem dX11_day_18 : decode cX11_day 18 = .ok (.ifCond .lt 8, 3) := by decide +kernel
theorem dX11_day_21 : decode cX11_day 21 = .ok (.iload_n 3, 1) := by decide +kernel
theorem dX11_day_22 : decode cX11_day 22 = .ok (.iconst 2, 1) := by decide +kernel
theorem dX11_day_23 : decode cX11_day 23 = .ok (.if_icmp .le 5, 3) := by decide +kernel
theorem dX11_day_26 : decode cX11_day 26 = .ok (.iconst (-1), 1) := by decide +kernel
theorem dX11_day_27 : decode cX11_day 27 = .ok (.ireturn, 1) := by decide +kernel
theorem dX11_day_28 : decode cX11_day 28 = .ok (.aload_n 0, 1) := by decide +kernel
theorem dX11_day_29 : decode cX11_day 29 = .ok (.iload_n 1, 1) := by decide +kernel
theorem dX11_day_30 : decode cX11_day 30 = .ok (.invokevirtual 171, 3) := by decide +kernel
theorem dX11_day_33 : decode cX11_day 33 = .ok (.istore 4, 2) := by decide +kernel
theorem dX11_day_35 : decode cX11_day 35 = .ok (.iload 4, 2) := by decide +kernel
theorem dX11_day_37 : decode cX11_day 37 = .ok (.ifCond .ge 6, 3) := by decide +kernel
theorem dX11_day_40 : decode cX11_day 40 = .ok (.iload 4, 2) := by decide +kernel
theorem dX11_day_42 : decode cX11_day 42 = .ok (.ireturn, 1) := by decide +kernel
theorem dX11_day_43 : decode cX11_day 43 = .ok (.aload_n 0, 1) := by decide +kernel
theorem dX11_day_44 : decode cX11_day 44 = .ok (.iload_n 2, 1) := by decide +kernel
theorem dX11_day_45 : decode cX11_day 45 = .ok (.invokevirtual 174, 3) := by decide +kernel
theorem dX11_day_48 : decode cX11_day 48 = .ok (.istore 5, 2) := by decide +kernel
theorem dX11_day_50 : decode cX11_day 50 = .ok (.iload_n 3, 1) := by decide +kernel
theorem dX11_day_51 : decode cX11_day 51 = .ok (.ifCond .ne 13, 3) := by decide +kernel
theorem dX11_day_54 : decode cX11_day 54 = .ok (.aload_n 0, 1) := by decide +kernel
theorem dX11_day_55 : decode cX11_day 55 = .ok (.getfield 68, 3) := by decide +kernel
theorem dX11_day_58 : decode cX11_day 58 = .ok (.getfield 177, 3) := by decide +kernel
theorem dX11_day_61 : decode cX11_day 61 = .ok (.goto 20, 3) := by decide +kernel
theorem dX11_day_64 : decode cX11_day 64 = .ok (.iload_n 3, 1) := by decide +kernel
theorem dX11_day_65 : decode cX11_day 65 = .ok (.iconst 1, 1) := by decide +kernel
theorem dX11_day_66 : decode cX11_day 66 = .ok (.if_icmp .ne 13, 3) := by decide +kernel
theorem dX11_day_69 : decode cX11_day 69 = .ok (.aload_n 0, 1) := by decide +kernel
theorem dX11_day_70 : decode cX11_day 70 = .ok (.getfield 68, 3) := by decide +kernel
theorem dX11_day_73 : decode cX11_day 73 = .ok (.getfield 180, 3) := by decide +kernel
theorem dX11_day_76 : decode cX11_day 76 = .ok (.goto 5, 3) := by decide +kernel
theorem dX11_day_79 : decode cX11_day 79 = .ok (.iload 5, 2) := by decide +kernel
theorem dX11_day_81 : decode cX11_day 81 = .ok (.ireturn, 1) := by decide +kernel
theorem dX11_stung_0 : decode cX11_stung 0 = .ok (.iload_n 1, 1) := by decide +kernel
theorem dX11_stung_1 : decode cX11_stung 1 = .ok (.invokestatic 115, 3) := by decide +kernel
theorem dX11_stung_4 : decode cX11_stung 4 = .ok (.ifCond .eq 35, 3) := by decide +kernel
theorem dX11_stung_7 : decode cX11_stung 7 = .ok (.iload_n 2, 1) := by decide +kernel
theorem dX11_stung_8 : decode cX11_stung 8 = .ok (.ifCond .lt 31, 3) := by decide +kernel
theorem dX11_stung_11 : decode cX11_stung 11 = .ok (.iload_n 2, 1) := by decide +kernel
theorem dX11_stung_12 : decode cX11_stung 12 = .ok (.bipush 24, 2) := by decide +kernel
theorem dX11_stung_14 : decode cX11_stung 14 = .ok (.if_icmp .gt 25, 3) := by decide +kernel
theorem dX11_stung_17 : decode cX11_stung 17 = .ok (.aload_n 0, 1) := by decide +kernel
theorem dX11_stung_18 : decode cX11_stung 18 = .ok (.getfield 52, 3) := by decide +kernel
theorem dX11_stung_21 : decode cX11_stung 21 = .ok (.iload_n 3, 1) := by decide +kernel
theorem dX11_stung_22 : decode cX11_stung 22 = .ok (.invokevirtual 160, 3) := by decide +kernel
theorem dX11_stung_25 : decode cX11_stung 25 = .ok (.ifCond .eq 14, 3) := by decide +kernel
theorem dX11_stung_28 : decode cX11_stung 28 = .ok (.iload 4, 2) := by decide +kernel
theorem dX11_stung_30 : decode cX11_stung 30 = .ok (.ifCond .lt 9, 3) := by decide +kernel
theorem dX11_stung_33 : decode cX11_stung 33 = .ok (.iload 4, 2) := by decide +kernel
theorem dX11_stung_35 : decode cX11_stung 35 = .ok (.iconst 2, 1) := by decide +kernel
theorem dX11_stung_36 : decode cX11_stung 36 = .ok (.if_icmp .le 5, 3) := by decide +kernel
theorem dX11_stung_39 : decode cX11_stung 39 = .ok (.iconst (-1), 1) := by decide +kernel
theorem dX11_stung_40 : decode cX11_stung 40 = .ok (.ireturn, 1) := by decide +kernel
theorem dX11_stung_41 : decode cX11_stung 41 = .ok (.aload_n 0, 1) := by decide +kernel
theorem dX11_stung_42 : decode cX11_stung 42 = .ok (.iload_n 1, 1) := by decide +kernel
theorem dX11_stung_43 : decode cX11_stung 43 = .ok (.invokevirtual 171, 3) := by decide +kernel
theorem dX11_stung_46 : decode cX11_stung 46 = .ok (.istore 5, 2) := by decide +kernel
theorem dX11_stung_48 : decode cX11_stung 48 = .ok (.iload 5, 2) := by decide +kernel
theorem dX11_stung_50 : decode cX11_stung 50 = .ok (.ifCond .ge 6, 3) := by decide +kernel
theorem dX11_stung_53 : decode cX11_stung 53 = .ok (.iload 5, 2) := by decide +kernel
theorem dX11_stung_55 : decode cX11_stung 55 = .ok (.ireturn, 1) := by decide +kernel
theorem dX11_stung_56 : decode cX11_stung 56 = .ok (.aload_n 0, 1) := by decide +kernel
theorem dX11_stung_57 : decode cX11_stung 57 = .ok (.getfield 68, 3) := by decide +kernel
theorem dX11_stung_60 : decode cX11_stung 60 = .ok (.aload_n 0, 1) := by decide +kernel
theorem dX11_stung_61 : decode cX11_stung 61 = .ok (.getfield 64, 3) := by decide +kernel
theorem dX11_stung_64 : decode cX11_stung 64 = .ok (.invokevirtual 163, 3) := by decide +kernel
theorem dX11_stung_67 : decode cX11_stung 67 = .ok (.iconst 0, 1) := by decide +kernel
theorem dX11_stung_68 : decode cX11_stung 68 = .ok (.istore 6, 2) := by decide +kernel
theorem dX11_stung_70 : decode cX11_stung 70 = .ok (.iconst 0, 1) := by decide +kernel
theorem dX11_stung_71 : decode cX11_stung 71 = .ok (.istore 7, 2) := by decide +kernel
theorem dX11_stung_73 : decode cX11_stung 73 = .ok (.bipush (-2), 2) := by decide +kernel
theorem dX11_stung_75 : decode cX11_stung 75 = .ok (.istore 8, 2) := by decide +kernel
theorem dX11_stung_77 : decode cX11_stung 77 = .ok (.iconst 0, 1) := by decide +kernel
theorem dX11_stung_78 : decode cX11_stung 78 = .ok (.istore 9, 2) := by decide +kernel
theorem dX11_stung_80 : decode cX11_stung 80 = .ok (.iload 9, 2) := by decide +kernel
theorem dX11_stung_82 : decode cX11_stung 82 = .ok (.iload_n 2, 1) := by decide +kernel
theorem dX11_stung_83 : decode cX11_stung 83 = .ok (.if_icmp .ge 91, 3) := by decide +kernel
theorem dX11_stung_86 : decode cX11_stung 86 = .ok (.iload 9, 2) := by decide +kernel
theorem dX11_stung_88 : decode cX11_stung 88 = .ok (.aload_n 0, 1) := by decide +kernel
theorem dX11_stung_89 : decode cX11_stung 89 = .ok (.getfield 60, 3) := by decide +kernel
theorem dX11_stung_92 : decode cX11_stung 92 = .ok (.getfield 183, 3) := by decide +kernel
theorem dX11_stung_95 : decode cX11_stung 95 = .ok (.if_icmp .ge 79, 3) := by decide +kernel
theorem dX11_stung_98 : decode cX11_stung 98 = .ok (.aload_n 0, 1) := by decide +kernel
theorem dX11_stung_99 : decode cX11_stung 99 = .ok (.getfield 68, 3) := by decide +kernel
theorem dX11_stung_102 : decode cX11_stung 102 = .ok (.getfield 186, 3) := by decide +kernel
theorem dX11_stung_105 : decode cX11_stung 105 = .ok (.istore 10, 2) := by decide +kernel
theorem dX11_stung_107 : decode cX11_stung 107 = .ok (.aload_n 0, 1) := by decide +kernel
theorem dX11_stung_108 : decode cX11_stung 108 = .ok (.getfield 68, 3) := by decide +kernel
theorem dX11_stung_111 : decode cX11_stung 111 = .ok (.aload_n 0, 1) := by decide +kernel
theorem dX11_stung_112 : decode cX11_stung 112 = .ok (.getfield 60, 3) := by decide +kernel
theorem dX11_stung_115 : decode cX11_stung 115 = .ok (.iload 9, 2) := by decide +kernel
theorem dX11_stung_117 : decode cX11_stung 117 = .ok (.invokevirtual 189, 3) := by decide +kernel
theorem dX11_stung_120 : decode cX11_stung 120 = .ok (.aload_n 0, 1) := by decide +kernel
theorem dX11_stung_121 : decode cX11_stung 121 = .ok (.getfield 60, 3) := by decide +kernel
theorem dX11_stung_124 : decode cX11_stung 124 = .ok (.iload 9, 2) := by decide +kernel
theorem dX11_stung_126 : decode cX11_stung 126 = .ok (.invokevirtual 192, 3) := by decide +kernel
theorem dX11_stung_129 : decode cX11_stung 129 = .ok (.invokevirtual 195, 3) := by decide +kernel
theorem dX11_stung_132 : decode cX11_stung 132 = .ok (.iload_n 3, 1) := by decide +kernel
theorem dX11_stung_133 : decode cX11_stung 133 = .ok (.if_icmp .ne 35, 3) := by decide +kernel
theorem dX11_stung_136 : decode cX11_stung 136 = .ok (.iload 6, 2) := by decide +kernel
theorem dX11_stung_138 : decode cX11_stung 138 = .ok (.ifCond .ne 8, 3) := by decide +kernel
theorem dX11_stung_141 : decode cX11_stung 141 = .ok (.iload 9, 2) := by decide +kernel
theorem dX11_stung_143 : decode cX11_stung 143 = .ok (.goto 5, 3) := by decide +kernel
theorem dX11_stung_146 : decode cX11_stung 146 = .ok (.iload 8, 2) := by decide +kernel
theorem dX11_stung_148 : decode cX11_stung 148 = .ok (.istore 8, 2) := by decide +kernel
theorem dX11_stung_150 : decode cX11_stung 150 = .ok (.iinc 6 1, 3) := by decide +kernel
theorem dX11_stung_153 : decode cX11_stung 153 = .ok (.iload 7, 2) := by decide +kernel
theorem dX11_stung_155 : decode cX11_stung 155 = .ok (.aload_n 0, 1) := by decide +kernel
theorem dX11_stung_156 : decode cX11_stung 156 = .ok (.getfield 68, 3) := by decide +kernel
theorem dX11_stung_159 : decode cX11_stung 159 = .ok (.getfield 186, 3) := by decide +kernel
theorem dX11_stung_162 : decode cX11_stung 162 = .ok (.iload 10, 2) := by decide +kernel
theorem dX11_stung_164 : decode cX11_stung 164 = .ok (.isub, 1) := by decide +kernel
theorem dX11_stung_165 : decode cX11_stung 165 = .ok (.iadd, 1) := by decide +kernel
theorem dX11_stung_166 : decode cX11_stung 166 = .ok (.istore 7, 2) := by decide +kernel
theorem dX11_stung_168 : decode cX11_stung 168 = .ok (.iinc 9 1, 3) := by decide +kernel
theorem dX11_stung_171 : decode cX11_stung 171 = .ok (.goto (-91), 3) := by decide +kernel
theorem dX11_stung_174 : decode cX11_stung 174 = .ok (.iload 4, 2) := by decide +kernel
theorem dX11_stung_176 : decode cX11_stung 176 = .ok (.ifCond .ne 8, 3) := by decide +kernel
theorem dX11_stung_179 : decode cX11_stung 179 = .ok (.iload 6, 2) := by decide +kernel
theorem dX11_stung_181 : decode cX11_stung 181 = .ok (.goto 16, 3) := by decide +kernel
theorem dX11_stung_184 : decode cX11_stung 184 = .ok (.iload 4, 2) := by decide +kernel
theorem dX11_stung_186 : decode cX11_stung 186 = .ok (.iconst 1, 1) := by decide +kernel
theorem dX11_stung_187 : decode cX11_stung 187 = .ok (.if_icmp .ne 8, 3) := by decide +kernel
theorem dX11_stung_190 : decode cX11_stung 190 = .ok (.iload 7, 2) := by decide +kernel
theorem dX11_stung_192 : decode cX11_stung 192 = .ok (.goto 5, 3) := by decide +kernel
theorem dX11_stung_195 : decode cX11_stung 195 = .ok (.iload 8, 2) := by decide +kernel
theorem dX11_stung_197 : decode cX11_stung 197 = .ok (.ireturn, 1) := by decide +kernel
theorem dX11_reach_0 : decode cX11_reach 0 = .ok (.aload_n 0, 1) := by decide +kernel
theorem dX11_reach_1 : decode cX11_reach 1 = .ok (.getfield 52, 3) := by decide +kernel
theorem dX11_reach_4 : decode cX11_reach 4 = .ok (.aload_n 0, 1) := by decide +kernel
theorem dX11_reach_5 : decode cX11_reach 5 = .ok (.getfield 64, 3) := by decide +kernel
theorem dX11_reach_8 : decode cX11_reach 8 = .ok (.getfield 180, 3) := by decide +kernel
theorem dX11_reach_11 : decode cX11_reach 11 = .ok (.invokevirtual 199, 3) := by decide +kernel
theorem dX11_reach_14 : decode cX11_reach 14 = .ok (.ireturn, 1) := by decide +kernel
theorem dX11_soon_0 : decode cX11_soon 0 = .ok (.aload_n 0, 1) := by decide +kernel
theorem dX11_soon_1 : decode cX11_soon 1 = .ok (.getfield 52, 3) := by decide +kernel
theorem dX11_soon_4 : decode cX11_soon 4 = .ok (.iload_n 1, 1) := by decide +kernel
theorem dX11_soon_5 : decode cX11_soon 5 = .ok (.invokevirtual 160, 3) := by decide +kernel
theorem dX11_soon_8 : decode cX11_soon 8 = .ok (.ifCond .ne 5, 3) := by decide +kernel
theorem dX11_soon_11 : decode cX11_soon 11 = .ok (.iconst (-1), 1) := by decide +kernel
theorem dX11_soon_12 : decode cX11_soon 12 = .ok (.ireturn, 1) := by decide +kernel
theorem dX11_soon_13 : decode cX11_soon 13 = .ok (.aload_n 0, 1) := by decide +kernel
theorem dX11_soon_14 : decode cX11_soon 14 = .ok (.getfield 68, 3) := by decide +kernel
theorem dX11_soon_17 : decode cX11_soon 17 = .ok (.aload_n 0, 1) := by decide +kernel
theorem dX11_soon_18 : decode cX11_soon 18 = .ok (.getfield 64, 3) := by decide +kernel
theorem dX11_soon_21 : decode cX11_soon 21 = .ok (.invokevirtual 163, 3) := by decide +kernel
theorem dX11_soon_24 : decode cX11_soon 24 = .ok (.aload_n 0, 1) := by decide +kernel
theorem dX11_soon_25 : decode cX11_soon 25 = .ok (.getfield 56, 3) := by decide +kernel
theorem dX11_soon_28 : decode cX11_soon 28 = .ok (.aload_n 0, 1) := by decide +kernel
theorem dX11_soon_29 : decode cX11_soon 29 = .ok (.getfield 68, 3) := by decide +kernel
theorem dX11_soon_32 : decode cX11_soon 32 = .ok (.iload_n 1, 1) := by decide +kernel
theorem dX11_soon_33 : decode cX11_soon 33 = .ok (.invokevirtual 167, 3) := by decide +kernel
theorem dX11_soon_36 : decode cX11_soon 36 = .ok (.ifCond .le 14, 3) := by decide +kernel
theorem dX11_soon_39 : decode cX11_soon 39 = .ok (.aload_n 0, 1) := by decide +kernel
theorem dX11_soon_40 : decode cX11_soon 40 = .ok (.getfield 68, 3) := by decide +kernel
theorem dX11_soon_43 : decode cX11_soon 43 = .ok (.iload_n 1, 1) := by decide +kernel
theorem dX11_soon_44 : decode cX11_soon 44 = .ok (.invokestatic 202, 3) := by decide +kernel
theorem dX11_soon_47 : decode cX11_soon 47 = .ok (.goto 5, 3) := by decide +kernel
theorem dX11_soon_50 : decode cX11_soon 50 = .ok (.bipush (-2), 2) := by decide +kernel
theorem dX11_soon_52 : decode cX11_soon 52 = .ok (.ireturn, 1) := by decide +kernel
theorem dX11_passOn_0 : decode cX11_passOn 0 = .ok (.iload_n 1, 1) := by decide +kernel
theorem dX11_passOn_1 : decode cX11_passOn 1 = .ok (.invokestatic 115, 3) := by decide +kernel
theorem dX11_passOn_4 : decode cX11_passOn 4 = .ok (.ifCond .eq 23, 3) := by decide +kernel
theorem dX11_passOn_7 : decode cX11_passOn 7 = .ok (.aload_n 0, 1) := by decide +kernel
theorem dX11_passOn_8 : decode cX11_passOn 8 = .ok (.getfield 52, 3) := by decide +kernel
theorem dX11_passOn_11 : decode cX11_passOn 11 = .ok (.iload_n 2, 1) := by decide +kernel
theorem dX11_passOn_12 : decode cX11_passOn 12 = .ok (.invokevirtual 160, 3) := by decide +kernel
theorem dX11_passOn_15 : decode cX11_passOn 15 = .ok (.ifCond .eq 12, 3) := by decide +kernel
theorem dX11_passOn_18 : decode cX11_passOn 18 = .ok (.iload_n 3, 1) := by decide +kernel
theorem dX11_passOn_19 : decode cX11_passOn 19 = .ok (.ifCond .lt 8, 3) := by decide +kernel
theorem dX11_passOn_22 : decode cX11_passOn 22 = .ok (.iload_n 3, 1) := by decide +kernel
theorem dX11_passOn_23 : decode cX11_passOn 23 = .ok (.iconst 1, 1) := by decide +kernel
theorem dX11_passOn_24 : decode cX11_passOn 24 = .ok (.if_icmp .le 5, 3) := by decide +kernel
theorem dX11_passOn_27 : decode cX11_passOn 27 = .ok (.iconst (-1), 1) := by decide +kernel
theorem dX11_passOn_28 : decode cX11_passOn 28 = .ok (.ireturn, 1) := by decide +kernel
theorem dX11_passOn_29 : decode cX11_passOn 29 = .ok (.aload_n 0, 1) := by decide +kernel
theorem dX11_passOn_30 : decode cX11_passOn 30 = .ok (.iload_n 1, 1) := by decide +kernel
theorem dX11_passOn_31 : decode cX11_passOn 31 = .ok (.invokevirtual 171, 3) := by decide +kernel
theorem dX11_passOn_34 : decode cX11_passOn 34 = .ok (.istore 4, 2) := by decide +kernel
theorem dX11_passOn_36 : decode cX11_passOn 36 = .ok (.iload 4, 2) := by decide +kernel
theorem dX11_passOn_38 : decode cX11_passOn 38 = .ok (.ifCond .ge 6, 3) := by decide +kernel
theorem dX11_passOn_41 : decode cX11_passOn 41 = .ok (.iload 4, 2) := by decide +kernel
theorem dX11_passOn_43 : decode cX11_passOn 43 = .ok (.ireturn, 1) := by decide +kernel
theorem dX11_passOn_44 : decode cX11_passOn 44 = .ok (.aload_n 0, 1) := by decide +kernel
theorem dX11_passOn_45 : decode cX11_passOn 45 = .ok (.bipush 24, 2) := by decide +kernel
theorem dX11_passOn_47 : decode cX11_passOn 47 = .ok (.invokevirtual 174, 3) := by decide +kernel
theorem dX11_passOn_50 : decode cX11_passOn 50 = .ok (.pop, 1) := by decide +kernel
theorem dX11_passOn_51 : decode cX11_passOn 51 = .ok (.bipush (-2), 2) := by decide +kernel
theorem dX11_passOn_53 : decode cX11_passOn 53 = .ok (.istore 5, 2) := by decide +kernel
theorem dX11_passOn_55 : decode cX11_passOn 55 = .ok (.bipush (-2), 2) := by decide +kernel
theorem dX11_passOn_57 : decode cX11_passOn 57 = .ok (.istore 6, 2) := by decide +kernel
theorem dX11_passOn_59 : decode cX11_passOn 59 = .ok (.iconst 0, 1) := by decide +kernel
theorem dX11_passOn_60 : decode cX11_passOn 60 = .ok (.istore 7, 2) := by decide +kernel
theorem dX11_passOn_62 : decode cX11_passOn 62 = .ok (.iload 7, 2) := by decide +kernel
theorem dX11_passOn_64 : decode cX11_passOn 64 = .ok (.aload_n 0, 1) := by decide +kernel
theorem dX11_passOn_65 : decode cX11_passOn 65 = .ok (.getfield 52, 3) := by decide +kernel
theorem dX11_passOn_68 : decode cX11_passOn 68 = .ok (.getfield 108, 3) := by decide +kernel
theorem dX11_passOn_71 : decode cX11_passOn 71 = .ok (.if_icmp .ge 89, 3) := by decide +kernel
theorem dX11_passOn_74 : decode cX11_passOn 74 = .ok (.iload 7, 2) := by decide +kernel
theorem dX11_passOn_76 : decode cX11_passOn 76 = .ok (.iload_n 2, 1) := by decide +kernel
theorem dX11_passOn_77 : decode cX11_passOn 77 = .ok (.if_icmp .eq 77, 3) := by decide +kernel
theorem dX11_passOn_80 : decode cX11_passOn 80 = .ok (.aload_n 0, 1) := by decide +kernel
theorem dX11_passOn_81 : decode cX11_passOn 81 = .ok (.getfield 56, 3) := by decide +kernel
theorem dX11_passOn_84 : decode cX11_passOn 84 = .ok (.aload_n 0, 1) := by decide +kernel
theorem dX11_passOn_85 : decode cX11_passOn 85 = .ok (.getfield 68, 3) := by decide +kernel
theorem dX11_passOn_88 : decode cX11_passOn 88 = .ok (.iload 7, 2) := by decide +kernel
theorem dX11_passOn_90 : decode cX11_passOn 90 = .ok (.invokevirtual 167, 3) := by decide +kernel
theorem dX11_passOn_93 : decode cX11_passOn 93 = .ok (.ifCond .gt 6, 3) := by decide +kernel
theorem dX11_passOn_96 : decode cX11_passOn 96 = .ok (.goto 58, 3) := by decide +kernel
theorem dX11_passOn_99 : decode cX11_passOn 99 = .ok (.aload_n 0, 1) := by decide +kernel
theorem dX11_passOn_100 : decode cX11_passOn 100 = .ok (.getfield 71, 3) := by decide +kernel
theorem dX11_passOn_103 : decode cX11_passOn 103 = .ok (.aload_n 0, 1) := by decide +kernel
theorem dX11_passOn_104 : decode cX11_passOn 104 = .ok (.getfield 68, 3) := by decide +kernel
theorem dX11_passOn_107 : decode cX11_passOn 107 = .ok (.bipush 8, 2) := by decide +kernel
theorem dX11_passOn_109 : decode cX11_passOn 109 = .ok (.invokevirtual 205, 3) := by decide +kernel
theorem dX11_passOn_112 : decode cX11_passOn 112 = .ok (.aload_n 0, 1) := by decide +kernel
theorem dX11_passOn_113 : decode cX11_passOn 113 = .ok (.getfield 71, 3) := by decide +kernel
theorem dX11_passOn_116 : decode cX11_passOn 116 = .ok (.iload 7, 2) := by decide +kernel
theorem dX11_passOn_118 : decode cX11_passOn 118 = .ok (.invokestatic 202, 3) := by decide +kernel
theorem dX11_passOn_121 : decode cX11_passOn 121 = .ok (.istore 8, 2) := by decide +kernel
theorem dX11_passOn_123 : decode cX11_passOn 123 = .ok (.iload 8, 2) := by decide +kernel
theorem dX11_passOn_125 : decode cX11_passOn 125 = .ok (.bipush (-2), 2) := by decide +kernel
theorem dX11_passOn_127 : decode cX11_passOn 127 = .ok (.if_icmp .ne 8, 3) := by decide +kernel
theorem dX11_passOn_130 : decode cX11_passOn 130 = .ok (.bipush 24, 2) := by decide +kernel
theorem dX11_passOn_132 : decode cX11_passOn 132 = .ok (.goto 5, 3) := by decide +kernel
theorem dX11_passOn_135 : decode cX11_passOn 135 = .ok (.iload 8, 2) := by decide +kernel
theorem dX11_passOn_137 : decode cX11_passOn 137 = .ok (.istore 8, 2) := by decide +kernel
theorem dX11_passOn_139 : decode cX11_passOn 139 = .ok (.iload 8, 2) := by decide +kernel
theorem dX11_passOn_141 : decode cX11_passOn 141 = .ok (.iload 6, 2) := by decide +kernel
theorem dX11_passOn_143 : decode cX11_passOn 143 = .ok (.if_icmp .le 11, 3) := by decide +kernel
theorem dX11_passOn_146 : decode cX11_passOn 146 = .ok (.iload 8, 2) := by decide +kernel
theorem dX11_passOn_148 : decode cX11_passOn 148 = .ok (.istore 6, 2) := by decide +kernel
theorem dX11_passOn_150 : decode cX11_passOn 150 = .ok (.iload 7, 2) := by decide +kernel
theorem dX11_passOn_152 : decode cX11_passOn 152 = .ok (.istore 5, 2) := by decide +kernel
theorem dX11_passOn_154 : decode cX11_passOn 154 = .ok (.iinc 7 1, 3) := by decide +kernel
theorem dX11_passOn_157 : decode cX11_passOn 157 = .ok (.goto (-95), 3) := by decide +kernel
theorem dX11_passOn_160 : decode cX11_passOn 160 = .ok (.iload_n 3, 1) := by decide +kernel
theorem dX11_passOn_161 : decode cX11_passOn 161 = .ok (.ifCond .ne 8, 3) := by decide +kernel
theorem dX11_passOn_164 : decode cX11_passOn 164 = .ok (.iload 5, 2) := by decide +kernel
theorem dX11_passOn_166 : decode cX11_passOn 166 = .ok (.goto 5, 3) := by decide +kernel
theorem dX11_passOn_169 : decode cX11_passOn 169 = .ok (.iload 6, 2) := by decide +kernel
theorem dX11_passOn_171 : decode cX11_passOn 171 = .ok (.ireturn, 1) := by decide +kernel
theorem dX11_orders_0 : decode cX11_orders 0 = .ok (.iload_n 1, 1) := by decide +kernel
theorem dX11_orders_1 : decode cX11_orders 1 = .ok (.invokestatic 115, 3) := by decide +kernel
theorem dX11_orders_4 : decode cX11_orders 4 = .ok (.ifCond .eq 9, 3) := by decide +kernel
theorem dX11_orders_7 : decode cX11_orders 7 = .ok (.iload_n 2, 1) := by decide +kernel
theorem dX11_orders_8 : decode cX11_orders 8 = .ok (.bipush (-2), 2) := by decide +kernel
theorem dX11_orders_10 : decode cX11_orders 10 = .ok (.if_icmp .ge 5, 3) := by decide +kernel
theorem dX11_orders_13 : decode cX11_orders 13 = .ok (.iconst (-1), 1) := by decide +kernel
theorem dX11_orders_14 : decode cX11_orders 14 = .ok (.ireturn, 1) := by decide +kernel
theorem dX11_orders_15 : decode cX11_orders 15 = .ok (.aload_n 0, 1) := by decide +kernel
theorem dX11_orders_16 : decode cX11_orders 16 = .ok (.iload_n 1, 1) := by decide +kernel
theorem dX11_orders_17 : decode cX11_orders 17 = .ok (.invokevirtual 171, 3) := by decide +kernel
theorem dX11_orders_20 : decode cX11_orders 20 = .ok (.istore_n 3, 1) := by decide +kernel
theorem dX11_orders_21 : decode cX11_orders 21 = .ok (.iload_n 3, 1) := by decide +kernel
theorem dX11_orders_22 : decode cX11_orders 22 = .ok (.ifCond .ge 5, 3) := by decide +kernel
theorem dX11_orders_25 : decode cX11_orders 25 = .ok (.iload_n 3, 1) := by decide +kernel
theorem dX11_orders_26 : decode cX11_orders 26 = .ok (.ireturn, 1) := by decide +kernel
theorem dX11_orders_27 : decode cX11_orders 27 = .ok (.aload_n 0, 1) := by decide +kernel
theorem dX11_orders_28 : decode cX11_orders 28 = .ok (.getfield 60, 3) := by decide +kernel
theorem dX11_orders_31 : decode cX11_orders 31 = .ok (.getfield 183, 3) := by decide +kernel
theorem dX11_orders_34 : decode cX11_orders 34 = .ok (.bipush 7, 2) := by decide +kernel
theorem dX11_orders_36 : decode cX11_orders 36 = .ok (.if_icmp .le 6, 3) := by decide +kernel
theorem dX11_orders_39 : decode cX11_orders 39 = .ok (.bipush (-5), 2) := by decide +kernel
theorem dX11_orders_41 : decode cX11_orders 41 = .ok (.ireturn, 1) := by decide +kernel
theorem dX11_orders_42 : decode cX11_orders 42 = .ok (.iload_n 2, 1) := by decide +kernel
theorem dX11_orders_43 : decode cX11_orders 43 = .ok (.aload_n 0, 1) := by decide +kernel
theorem dX11_orders_44 : decode cX11_orders 44 = .ok (.getfield 60, 3) := by decide +kernel
theorem dX11_orders_47 : decode cX11_orders 47 = .ok (.getfield 183, 3) := by decide +kernel
theorem dX11_orders_50 : decode cX11_orders 50 = .ok (.if_icmp .lt 6, 3) := by decide +kernel
theorem dX11_orders_53 : decode cX11_orders 53 = .ok (.bipush (-2), 2) := by decide +kernel
theorem dX11_orders_55 : decode cX11_orders 55 = .ok (.ireturn, 1) := by decide +kernel
theorem dX11_orders_56 : decode cX11_orders 56 = .ok (.aload_n 0, 1) := by decide +kernel
theorem dX11_orders_57 : decode cX11_orders 57 = .ok (.getfield 82, 3) := by decide +kernel
theorem dX11_orders_60 : decode cX11_orders 60 = .ok (.aload_n 0, 1) := by decide +kernel
theorem dX11_orders_61 : decode cX11_orders 61 = .ok (.getfield 64, 3) := by decide +kernel
theorem dX11_orders_64 : decode cX11_orders 64 = .ok (.invokevirtual 209, 3) := by decide +kernel
theorem dX11_orders_67 : decode cX11_orders 67 = .ok (.iload_n 2, 1) := by decide +kernel
theorem dX11_orders_68 : decode cX11_orders 68 = .ok (.iconst (-1), 1) := by decide +kernel
theorem dX11_orders_69 : decode cX11_orders 69 = .ok (.if_icmp .ne 13, 3) := by decide +kernel
theorem dX11_orders_72 : decode cX11_orders 72 = .ok (.aload_n 0, 1) := by decide +kernel
theorem dX11_orders_73 : decode cX11_orders 73 = .ok (.getfield 82, 3) := by decide +kernel
theorem dX11_orders_76 : decode cX11_orders 76 = .ok (.getfield 212, 3) := by decide +kernel
theorem dX11_orders_79 : decode cX11_orders 79 = .ok (.goto 27, 3) := by decide +kernel
theorem dX11_orders_82 : decode cX11_orders 82 = .ok (.iload_n 2, 1) := by decide +kernel
theorem dX11_orders_83 : decode cX11_orders 83 = .ok (.bipush (-2), 2) := by decide +kernel
theorem dX11_orders_85 : decode cX11_orders 85 = .ok (.if_icmp .ne 13, 3) := by decide +kernel
theorem dX11_orders_88 : decode cX11_orders 88 = .ok (.aload_n 0, 1) := by decide +kernel
theorem dX11_orders_89 : decode cX11_orders 89 = .ok (.getfield 82, 3) := by decide +kernel
theorem dX11_orders_92 : decode cX11_orders 92 = .ok (.getfield 215, 3) := by decide +kernel
theorem dX11_orders_95 : decode cX11_orders 95 = .ok (.goto 11, 3) := by decide +kernel
theorem dX11_orders_98 : decode cX11_orders 98 = .ok (.aload_n 0, 1) := by decide +kernel
theorem dX11_orders_99 : decode cX11_orders 99 = .ok (.getfield 82, 3) := by decide +kernel
theorem dX11_orders_102 : decode cX11_orders 102 = .ok (.iload_n 2, 1) := by decide +kernel
theorem dX11_orders_103 : decode cX11_orders 103 = .ok (.invokevirtual 218, 3) := by decide +kernel
theorem dX11_orders_106 : decode cX11_orders 106 = .ok (.ireturn, 1) := by decide +kernel
theorem dX11_stand_0 : decode cX11_stand 0 = .ok (.iload_n 1, 1) := by decide +kernel
theorem dX11_stand_1 : decode cX11_stand 1 = .ok (.invokestatic 115, 3) := by decide +kernel
theorem dX11_stand_4 : decode cX11_stand 4 = .ok (.ifCond .eq 23, 3) := by decide +kernel
theorem dX11_stand_7 : decode cX11_stand 7 = .ok (.aload_n 0, 1) := by decide +kernel
theorem dX11_stand_8 : decode cX11_stand 8 = .ok (.getfield 52, 3) := by decide +kernel
theorem dX11_stand_11 : decode cX11_stand 11 = .ok (.iload_n 2, 1) := by decide +kernel
theorem dX11_stand_12 : decode cX11_stand 12 = .ok (.invokevirtual 160, 3) := by decide +kernel
theorem dX11_stand_15 : decode cX11_stand 15 = .ok (.ifCond .eq 12, 3) := by decide +kernel
theorem dX11_stand_18 : decode cX11_stand 18 = .ok (.iload_n 3, 1) := by decide +kernel
theorem dX11_stand_19 : decode cX11_stand 19 = .ok (.ifCond .lt 8, 3) := by decide +kernel
theorem dX11_stand_22 : decode cX11_stand 22 = .ok (.iload_n 3, 1) := by decide +kernel
theorem dX11_stand_23 : decode cX11_stand 23 = .ok (.iconst 1, 1) := by decide +kernel
theorem dX11_stand_24 : decode cX11_stand 24 = .ok (.if_icmp .le 5, 3) := by decide +kernel
theorem dX11_stand_27 : decode cX11_stand 27 = .ok (.iconst (-1), 1) := by decide +kernel
theorem dX11_stand_28 : decode cX11_stand 28 = .ok (.ireturn, 1) := by decide +kernel
theorem dX11_stand_29 : decode cX11_stand 29 = .ok (.aload_n 0, 1) := by decide +kernel
theorem dX11_stand_30 : decode cX11_stand 30 = .ok (.iload_n 1, 1) := by decide +kernel
theorem dX11_stand_31 : decode cX11_stand 31 = .ok (.invokevirtual 171, 3) := by decide +kernel
theorem dX11_stand_34 : decode cX11_stand 34 = .ok (.istore 4, 2) := by decide +kernel
theorem dX11_stand_36 : decode cX11_stand 36 = .ok (.iload 4, 2) := by decide +kernel
theorem dX11_stand_38 : decode cX11_stand 38 = .ok (.ifCond .ge 6, 3) := by decide +kernel
theorem dX11_stand_41 : decode cX11_stand 41 = .ok (.iload 4, 2) := by decide +kernel
theorem dX11_stand_43 : decode cX11_stand 43 = .ok (.ireturn, 1) := by decide +kernel
theorem dX11_stand_44 : decode cX11_stand 44 = .ok (.aload_n 0, 1) := by decide +kernel
theorem dX11_stand_45 : decode cX11_stand 45 = .ok (.getfield 52, 3) := by decide +kernel
theorem dX11_stand_48 : decode cX11_stand 48 = .ok (.getfield 221, 3) := by decide +kernel
theorem dX11_stand_51 : decode cX11_stand 51 = .ok (.iload_n 2, 1) := by decide +kernel
theorem dX11_stand_52 : decode cX11_stand 52 = .ok (.iaload, 1) := by decide +kernel
theorem dX11_stand_53 : decode cX11_stand 53 = .ok (.istore 5, 2) := by decide +kernel
theorem dX11_stand_55 : decode cX11_stand 55 = .ok (.bipush (-2), 2) := by decide +kernel
theorem dX11_stand_57 : decode cX11_stand 57 = .ok (.istore 6, 2) := by decide +kernel
theorem dX11_stand_59 : decode cX11_stand 59 = .ok (.iconst 0, 1) := by decide +kernel
theorem dX11_stand_60 : decode cX11_stand 60 = .ok (.istore 7, 2) := by decide +kernel
theorem dX11_stand_62 : decode cX11_stand 62 = .ok (.iconst 0, 1) := by decide +kernel
theorem dX11_stand_63 : decode cX11_stand 63 = .ok (.istore 8, 2) := by decide +kernel
theorem dX11_stand_65 : decode cX11_stand 65 = .ok (.iload 8, 2) := by decide +kernel
theorem dX11_stand_67 : decode cX11_stand 67 = .ok (.sipush 256, 3) := by decide +kernel
theorem dX11_stand_70 : decode cX11_stand 70 = .ok (.if_icmp .ge 44, 3) := by decide +kernel
theorem dX11_stand_73 : decode cX11_stand 73 = .ok (.aload_n 0, 1) := by decide +kernel
theorem dX11_stand_74 : decode cX11_stand 74 = .ok (.getfield 52, 3) := by decide +kernel
theorem dX11_stand_77 : decode cX11_stand 77 = .ok (.iload_n 2, 1) := by decide +kernel
theorem dX11_stand_78 : decode cX11_stand 78 = .ok (.iload 8, 2) := by decide +kernel
theorem dX11_stand_80 : decode cX11_stand 80 = .ok (.invokevirtual 224, 3) := by decide +kernel
theorem dX11_stand_83 : decode cX11_stand 83 = .ok (.aload_n 0, 1) := by decide +kernel
theorem dX11_stand_84 : decode cX11_stand 84 = .ok (.iload_n 2, 1) := by decide +kernel
theorem dX11_stand_85 : decode cX11_stand 85 = .ok (.invokevirtual 228, 3) := by decide +kernel
theorem dX11_stand_88 : decode cX11_stand 88 = .ok (.ifCond .eq 20, 3) := by decide +kernel
theorem dX11_stand_91 : decode cX11_stand 91 = .ok (.iload 7, 2) := by decide +kernel
theorem dX11_stand_93 : decode cX11_stand 93 = .ok (.ifCond .ne 8, 3) := by decide +kernel
theorem dX11_stand_96 : decode cX11_stand 96 = .ok (.iload 8, 2) := by decide +kernel
theorem dX11_stand_98 : decode cX11_stand 98 = .ok (.goto 5, 3) := by decide +kernel
theorem dX11_stand_101 : decode cX11_stand 101 = .ok (.iload 6, 2) := by decide +kernel
theorem dX11_stand_103 : decode cX11_stand 103 = .ok (.istore 6, 2) := by decide +kernel
theorem dX11_stand_105 : decode cX11_stand 105 = .ok (.iinc 7 1, 3) := by decide +kernel
theorem dX11_stand_108 : decode cX11_stand 108 = .ok (.iinc 8 1, 3) := by decide +kernel
theorem dX11_stand_111 : decode cX11_stand 111 = .ok (.goto (-46), 3) := by decide +kernel
theorem dX11_stand_114 : decode cX11_stand 114 = .ok (.aload_n 0, 1) := by decide +kernel
theorem dX11_stand_115 : decode cX11_stand 115 = .ok (.getfield 52, 3) := by decide +kernel
theorem dX11_stand_118 : decode cX11_stand 118 = .ok (.iload_n 2, 1) := by decide +kernel
theorem dX11_stand_119 : decode cX11_stand 119 = .ok (.iload 5, 2) := by decide +kernel
theorem dX11_stand_121 : decode cX11_stand 121 = .ok (.invokevirtual 224, 3) := by decide +kernel
theorem dX11_stand_124 : decode cX11_stand 124 = .ok (.iload_n 3, 1) := by decide +kernel
theorem dX11_stand_125 : decode cX11_stand 125 = .ok (.ifCond .ne 8, 3) := by decide +kernel
theorem dX11_stand_128 : decode cX11_stand 128 = .ok (.iload 6, 2) := by decide +kernel
theorem dX11_stand_130 : decode cX11_stand 130 = .ok (.goto 5, 3) := by decide +kernel
theorem dX11_stand_133 : decode cX11_stand 133 = .ok (.iload 7, 2) := by decide +kernel
theorem dX11_stand_135 : decode cX11_stand 135 = .ok (.ireturn, 1) := by decide +kernel
theorem dX11_lastWord_0 : decode cX11_lastWord 0 = .ok (.iload_n 1, 1) := by decide +kernel
theorem dX11_lastWord_1 : decode cX11_lastWord 1 = .ok (.ifCond .lt 23, 3) := by decide +kernel
theorem dX11_lastWord_4 : decode cX11_lastWord 4 = .ok (.iload_n 2, 1) := by decide +kernel
theorem dX11_lastWord_5 : decode cX11_lastWord 5 = .ok (.iconst 1, 1) := by decide +kernel
theorem dX11_lastWord_6 : decode cX11_lastWord 6 = .ok (.if_icmp .lt 18, 3) := by decide +kernel
theorem dX11_lastWord_9 : decode cX11_lastWord 9 = .ok (.iload_n 2, 1) := by decide +kernel
theorem dX11_lastWord_10 : decode cX11_lastWord 10 = .ok (.bipush 6, 2) := by decide +kernel
theorem dX11_lastWord_12 : decode cX11_lastWord 12 = .ok (.if_icmp .gt 12, 3) := by decide +kernel
theorem dX11_lastWord_15 : decode cX11_lastWord 15 = .ok (.iload_n 3, 1) := by decide +kernel
theorem dX11_lastWord_16 : decode cX11_lastWord 16 = .ok (.ifCond .lt 8, 3) := by decide +kernel
theorem dX11_lastWord_19 : decode cX11_lastWord 19 = .ok (.iload_n 3, 1) := by decide +kernel
theorem dX11_lastWord_20 : decode cX11_lastWord 20 = .ok (.iconst 1, 1) := by decide +kernel
theorem dX11_lastWord_21 : decode cX11_lastWord 21 = .ok (.if_icmp .le 5, 3) := by decide +kernel
theorem dX11_lastWord_24 : decode cX11_lastWord 24 = .ok (.iconst (-1), 1) := by decide +kernel
theorem dX11_lastWord_25 : decode cX11_lastWord 25 = .ok (.ireturn, 1) := by decide +kernel
theorem dX11_lastWord_26 : decode cX11_lastWord 26 = .ok (.iload_n 1, 1) := by decide +kernel
theorem dX11_lastWord_27 : decode cX11_lastWord 27 = .ok (.bipush 10, 2) := by decide +kernel
theorem dX11_lastWord_29 : decode cX11_lastWord 29 = .ok (.idiv, 1) := by decide +kernel
theorem dX11_lastWord_30 : decode cX11_lastWord 30 = .ok (.istore 4, 2) := by decide +kernel
theorem dX11_lastWord_32 : decode cX11_lastWord 32 = .ok (.iload_n 1, 1) := by decide +kernel
theorem dX11_lastWord_33 : decode cX11_lastWord 33 = .ok (.bipush 10, 2) := by decide +kernel
theorem dX11_lastWord_35 : decode cX11_lastWord 35 = .ok (.irem, 1) := by decide +kernel
theorem dX11_lastWord_36 : decode cX11_lastWord 36 = .ok (.istore 5, 2) := by decide +kernel
theorem dX11_lastWord_38 : decode cX11_lastWord 38 = .ok (.iload 4, 2) := by decide +kernel
theorem dX11_lastWord_40 : decode cX11_lastWord 40 = .ok (.iload 5, 2) := by decide +kernel
theorem dX11_lastWord_42 : decode cX11_lastWord 42 = .ok (.if_icmp .eq 27, 3) := by decide +kernel
theorem dX11_lastWord_45 : decode cX11_lastWord 45 = .ok (.aload_n 0, 1) := by decide +kernel
theorem dX11_lastWord_46 : decode cX11_lastWord 46 = .ok (.getfield 52, 3) := by decide +kernel
theorem dX11_lastWord_49 : decode cX11_lastWord 49 = .ok (.iload 4, 2) := by decide +kernel
theorem dX11_lastWord_51 : decode cX11_lastWord 51 = .ok (.invokevirtual 160, 3) := by decide +kernel
theorem dX11_lastWord_54 : decode cX11_lastWord 54 = .ok (.ifCond .eq 15, 3) := by decide +kernel
theorem dX11_lastWord_57 : decode cX11_lastWord 57 = .ok (.aload_n 0, 1) := by decide +kernel
theorem dX11_lastWord_58 : decode cX11_lastWord 58 = .ok (.getfield 52, 3) := by decide +kernel
theorem dX11_lastWord_61 : decode cX11_lastWord 61 = .ok (.iload 5, 2) := by decide +kernel
theorem dX11_lastWord_63 : decode cX11_lastWord 63 = .ok (.invokevirtual 160, 3) := by decide +kernel
theorem dX11_lastWord_66 : decode cX11_lastWord 66 = .ok (.ifCond .ne 5, 3) := by decide +kernel
theorem dX11_lastWord_69 : decode cX11_lastWord 69 = .ok (.iconst (-1), 1) := by decide +kernel
theorem dX11_lastWord_70 : decode cX11_lastWord 70 = .ok (.ireturn, 1) := by decide +kernel
theorem dX11_lastWord_71 : decode cX11_lastWord 71 = .ok (.aload_n 0, 1) := by decide +kernel
theorem dX11_lastWord_72 : decode cX11_lastWord 72 = .ok (.getfield 91, 3) := by decide +kernel
theorem dX11_lastWord_75 : decode cX11_lastWord 75 = .ok (.aload_n 0, 1) := by decide +kernel
theorem dX11_lastWord_76 : decode cX11_lastWord 76 = .ok (.getfield 64, 3) := by decide +kernel
theorem dX11_lastWord_79 : decode cX11_lastWord 79 = .ok (.iload 4, 2) := by decide +kernel
theorem dX11_lastWord_81 : decode cX11_lastWord 81 = .ok (.iload 5, 2) := by decide +kernel
theorem dX11_lastWord_83 : decode cX11_lastWord 83 = .ok (.iload_n 2, 1) := by decide +kernel
theorem dX11_lastWord_84 : decode cX11_lastWord 84 = .ok (.invokevirtual 231, 3) := by decide +kernel
theorem dX11_lastWord_87 : decode cX11_lastWord 87 = .ok (.iload_n 3, 1) := by decide +kernel
theorem dX11_lastWord_88 : decode cX11_lastWord 88 = .ok (.ifCond .ne 13, 3) := by decide +kernel
theorem dX11_lastWord_91 : decode cX11_lastWord 91 = .ok (.aload_n 0, 1) := by decide +kernel
theorem dX11_lastWord_92 : decode cX11_lastWord 92 = .ok (.getfield 91, 3) := by decide +kernel
theorem dX11_lastWord_95 : decode cX11_lastWord 95 = .ok (.getfield 235, 3) := by decide +kernel
theorem dX11_lastWord_98 : decode cX11_lastWord 98 = .ok (.goto 10, 3) := by decide +kernel
theorem dX11_lastWord_101 : decode cX11_lastWord 101 = .ok (.aload_n 0, 1) := by decide +kernel
theorem dX11_lastWord_102 : decode cX11_lastWord 102 = .ok (.getfield 91, 3) := by decide +kernel
theorem dX11_lastWord_105 : decode cX11_lastWord 105 = .ok (.getfield 238, 3) := by decide +kernel
theorem dX11_lastWord_108 : decode cX11_lastWord 108 = .ok (.ireturn, 1) := by decide +kernel
theorem dX11_crier_0 : decode cX11_crier 0 = .ok (.aload_n 0, 1) := by decide +kernel
theorem dX11_crier_1 : decode cX11_crier 1 = .ok (.getfield 52, 3) := by decide +kernel
theorem dX11_crier_4 : decode cX11_crier 4 = .ok (.iload_n 1, 1) := by decide +kernel
theorem dX11_crier_5 : decode cX11_crier 5 = .ok (.invokevirtual 160, 3) := by decide +kernel
theorem dX11_crier_8 : decode cX11_crier 8 = .ok (.ifCond .eq 12, 3) := by decide +kernel
theorem dX11_crier_11 : decode cX11_crier 11 = .ok (.iload_n 2, 1) := by decide +kernel
theorem dX11_crier_12 : decode cX11_crier 12 = .ok (.ifCond .lt 8, 3) := by decide +kernel
theorem dX11_crier_15 : decode cX11_crier 15 = .ok (.iload_n 2, 1) := by decide +kernel
theorem dX11_crier_16 : decode cX11_crier 16 = .ok (.iconst 1, 1) := by decide +kernel
theorem dX11_crier_17 : decode cX11_crier 17 = .ok (.if_icmp .le 5, 3) := by decide +kernel
theorem dX11_crier_20 : decode cX11_crier 20 = .ok (.iconst (-1), 1) := by decide +kernel
theorem dX11_crier_21 : decode cX11_crier 21 = .ok (.ireturn, 1) := by decide +kernel
theorem dX11_crier_22 : decode cX11_crier 22 = .ok (.aload_n 0, 1) := by decide +kernel
theorem dX11_crier_23 : decode cX11_crier 23 = .ok (.getfield 52, 3) := by decide +kernel
theorem dX11_crier_26 : decode cX11_crier 26 = .ok (.aload_n 0, 1) := by decide +kernel
theorem dX11_crier_27 : decode cX11_crier 27 = .ok (.getfield 64, 3) := by decide +kernel
theorem dX11_crier_30 : decode cX11_crier 30 = .ok (.getfield 180, 3) := by decide +kernel
theorem dX11_crier_33 : decode cX11_crier 33 = .ok (.invokevirtual 199, 3) := by decide +kernel
theorem dX11_crier_36 : decode cX11_crier 36 = .ok (.istore_n 3, 1) := by decide +kernel
theorem dX11_crier_37 : decode cX11_crier 37 = .ok (.bipush (-2), 2) := by decide +kernel
theorem dX11_crier_39 : decode cX11_crier 39 = .ok (.istore 4, 2) := by decide +kernel
theorem dX11_crier_41 : decode cX11_crier 41 = .ok (.bipush (-2), 2) := by decide +kernel
theorem dX11_crier_43 : decode cX11_crier 43 = .ok (.istore 5, 2) := by decide +kernel
theorem dX11_crier_45 : decode cX11_crier 45 = .ok (.iconst 0, 1) := by decide +kernel
theorem dX11_crier_46 : decode cX11_crier 46 = .ok (.istore 6, 2) := by decide +kernel
theorem dX11_crier_48 : decode cX11_crier 48 = .ok (.iload 6, 2) := by decide +kernel
theorem dX11_crier_50 : decode cX11_crier 50 = .ok (.aload_n 0, 1) := by decide +kernel
theorem dX11_crier_51 : decode cX11_crier 51 = .ok (.getfield 52, 3) := by decide +kernel
theorem dX11_crier_54 : decode cX11_crier 54 = .ok (.getfield 108, 3) := by decide +kernel
theorem dX11_crier_57 : decode cX11_crier 57 = .ok (.if_icmp .ge 89, 3) := by decide +kernel
theorem dX11_crier_60 : decode cX11_crier 60 = .ok (.iload 6, 2) := by decide +kernel
theorem dX11_crier_62 : decode cX11_crier 62 = .ok (.iload_n 1, 1) := by decide +kernel
theorem dX11_crier_63 : decode cX11_crier 63 = .ok (.if_icmp .eq 77, 3) := by decide +kernel
theorem dX11_crier_66 : decode cX11_crier 66 = .ok (.iload_n 3, 1) := by decide +kernel
theorem dX11_crier_67 : decode cX11_crier 67 = .ok (.iload 6, 2) := by decide +kernel
theorem dX11_crier_69 : decode cX11_crier 69 = .ok (.ishr, 1) := by decide +kernel
theorem dX11_crier_70 : decode cX11_crier 70 = .ok (.iconst 1, 1) := by decide +kernel
theorem dX11_crier_71 : decode cX11_crier 71 = .ok (.iand, 1) := by decide +kernel
theorem dX11_crier_72 : decode cX11_crier 72 = .ok (.ifCond .ne 6, 3) := by decide +kernel
theorem dX11_crier_75 : decode cX11_crier 75 = .ok (.goto 65, 3) := by decide +kernel
theorem dX11_crier_78 : decode cX11_crier 78 = .ok (.aload_n 0, 1) := by decide +kernel
theorem dX11_crier_79 : decode cX11_crier 79 = .ok (.getfield 64, 3) := by decide +kernel
theorem dX11_crier_82 : decode cX11_crier 82 = .ok (.getfield 241, 3) := by decide +kernel
theorem dX11_crier_85 : decode cX11_crier 85 = .ok (.iload 6, 2) := by decide +kernel
theorem dX11_crier_87 : decode cX11_crier 87 = .ok (.iaload, 1) := by decide +kernel
theorem dX11_crier_88 : decode cX11_crier 88 = .ok (.ifCond .le 18, 3) := by decide +kernel
theorem dX11_crier_91 : decode cX11_crier 91 = .ok (.aload_n 0, 1) := by decide +kernel
theorem dX11_crier_92 : decode cX11_crier 92 = .ok (.getfield 52, 3) := by decide +kernel
theorem dX11_crier_95 : decode cX11_crier 95 = .ok (.getfield 244, 3) := by decide +kernel
theorem dX11_crier_98 : decode cX11_crier 98 = .ok (.iload 6, 2) := by decide +kernel
theorem dX11_crier_100 : decode cX11_crier 100 = .ok (.iaload, 1) := by decide +kernel
theorem dX11_crier_101 : decode cX11_crier 101 = .ok (.iconst 2, 1) := by decide +kernel
theorem dX11_crier_102 : decode cX11_crier 102 = .ok (.idiv, 1) := by decide +kernel
theorem dX11_crier_103 : decode cX11_crier 103 = .ok (.goto 13, 3) := by decide +kernel
theorem dX11_crier_106 : decode cX11_crier 106 = .ok (.aload_n 0, 1) := by decide +kernel
theorem dX11_crier_107 : decode cX11_crier 107 = .ok (.getfield 52, 3) := by decide +kernel
theorem dX11_crier_110 : decode cX11_crier 110 = .ok (.getfield 244, 3) := by decide +kernel
theorem dX11_crier_113 : decode cX11_crier 113 = .ok (.iload 6, 2) := by decide +kernel
theorem dX11_crier_115 : decode cX11_crier 115 = .ok (.iaload, 1) := by decide +kernel
theorem dX11_crier_116 : decode cX11_crier 116 = .ok (.istore 7, 2) := by decide +kernel
theorem dX11_crier_118 : decode cX11_crier 118 = .ok (.iload 4, 2) := by decide +kernel
theorem dX11_crier_120 : decode cX11_crier 120 = .ok (.bipush (-2), 2) := by decide +kernel
theorem dX11_crier_122 : decode cX11_crier 122 = .ok (.if_icmp .eq 10, 3) := by decide +kernel
theorem dX11_crier_125 : decode cX11_crier 125 = .ok (.iload 7, 2) := by decide +kernel
theorem dX11_crier_127 : decode cX11_crier 127 = .ok (.iload 5, 2) := by decide +kernel
theorem dX11_crier_129 : decode cX11_crier 129 = .ok (.if_icmp .ge 11, 3) := by decide +kernel
theorem dX11_crier_132 : decode cX11_crier 132 = .ok (.iload 6, 2) := by decide +kernel
theorem dX11_crier_134 : decode cX11_crier 134 = .ok (.istore 4, 2) := by decide +kernel
theorem dX11_crier_136 : decode cX11_crier 136 = .ok (.iload 7, 2) := by decide +kernel
theorem dX11_crier_138 : decode cX11_crier 138 = .ok (.istore 5, 2) := by decide +kernel
theorem dX11_crier_140 : decode cX11_crier 140 = .ok (.iinc 6 1, 3) := by decide +kernel
theorem dX11_crier_143 : decode cX11_crier 143 = .ok (.goto (-95), 3) := by decide +kernel
theorem dX11_crier_146 : decode cX11_crier 146 = .ok (.iload_n 2, 1) := by decide +kernel
theorem dX11_crier_147 : decode cX11_crier 147 = .ok (.ifCond .ne 8, 3) := by decide +kernel
theorem dX11_crier_150 : decode cX11_crier 150 = .ok (.iload 4, 2) := by decide +kernel
theorem dX11_crier_152 : decode cX11_crier 152 = .ok (.goto 5, 3) := by decide +kernel
theorem dX11_crier_155 : decode cX11_crier 155 = .ok (.iload 5, 2) := by decide +kernel
theorem dX11_crier_157 : decode cX11_crier 157 = .ok (.ireturn, 1) := by decide +kernel
theorem dX11_keepNear_0 : decode cX11_keepNear 0 = .ok (.aload_n 0, 1) := by decide +kernel
theorem dX11_keepNear_1 : decode cX11_keepNear 1 = .ok (.getfield 52, 3) := by decide +kernel
theorem dX11_keepNear_4 : decode cX11_keepNear 4 = .ok (.iload_n 1, 1) := by decide +kernel
theorem dX11_keepNear_5 : decode cX11_keepNear 5 = .ok (.invokevirtual 160, 3) := by decide +kernel
theorem dX11_keepNear_8 : decode cX11_keepNear 8 = .ok (.ifCond .ne 5, 3) := by decide +kernel
theorem dX11_keepNear_11 : decode cX11_keepNear 11 = .ok (.iconst (-1), 1) := by decide +kernel
theorem dX11_keepNear_12 : decode cX11_keepNear 12 = .ok (.ireturn, 1) := by decide +kernel
theorem dX11_keepNear_13 : decode cX11_keepNear 13 = .ok (.bipush (-2), 2) := by decide +kernel
theorem dX11_keepNear_15 : decode cX11_keepNear 15 = .ok (.istore_n 2, 1) := by decide +kernel
theorem dX11_keepNear_16 : decode cX11_keepNear 16 = .ok (.iconst 0, 1) := by decide +kernel
theorem dX11_keepNear_17 : decode cX11_keepNear 17 = .ok (.istore_n 3, 1) := by decide +kernel
theorem dX11_keepNear_18 : decode cX11_keepNear 18 = .ok (.iload_n 3, 1) := by decide +kernel
theorem dX11_keepNear_19 : decode cX11_keepNear 19 = .ok (.aload_n 0, 1) := by decide +kernel
theorem dX11_keepNear_20 : decode cX11_keepNear 20 = .ok (.getfield 52, 3) := by decide +kernel
theorem dX11_keepNear_23 : decode cX11_keepNear 23 = .ok (.getfield 108, 3) := by decide +kernel
theorem dX11_keepNear_26 : decode cX11_keepNear 26 = .ok (.if_icmp .ge 35, 3) := by decide +kernel
theorem dX11_keepNear_29 : decode cX11_keepNear 29 = .ok (.iload_n 3, 1) := by decide +kernel
theorem dX11_keepNear_30 : decode cX11_keepNear 30 = .ok (.iload_n 1, 1) := by decide +kernel
theorem dX11_keepNear_31 : decode cX11_keepNear 31 = .ok (.if_icmp .eq 24, 3) := by decide +kernel
theorem dX11_keepNear_34 : decode cX11_keepNear 34 = .ok (.iload_n 2, 1) := by decide +kernel
theorem dX11_keepNear_35 : decode cX11_keepNear 35 = .ok (.bipush (-2), 2) := by decide +kernel
theorem dX11_keepNear_37 : decode cX11_keepNear 37 = .ok (.if_icmp .eq 16, 3) := by decide +kernel
theorem dX11_keepNear_40 : decode cX11_keepNear 40 = .ok (.aload_n 0, 1) := by decide +kernel
theorem dX11_keepNear_41 : decode cX11_keepNear 41 = .ok (.getfield 52, 3) := by decide +kernel
theorem dX11_keepNear_44 : decode cX11_keepNear 44 = .ok (.iload_n 1, 1) := by decide +kernel
theorem dX11_keepNear_45 : decode cX11_keepNear 45 = .ok (.iload_n 3, 1) := by decide +kernel
theorem dX11_keepNear_46 : decode cX11_keepNear 46 = .ok (.iload_n 2, 1) := by decide +kernel
theorem dX11_keepNear_47 : decode cX11_keepNear 47 = .ok (.invokevirtual 247, 3) := by decide +kernel
theorem dX11_keepNear_50 : decode cX11_keepNear 50 = .ok (.ifCond .eq 5, 3) := by decide +kernel
theorem dX11_keepNear_53 : decode cX11_keepNear 53 = .ok (.iload_n 3, 1) := by decide +kernel
theorem dX11_keepNear_54 : decode cX11_keepNear 54 = .ok (.istore_n 2, 1) := by decide +kernel
theorem dX11_keepNear_55 : decode cX11_keepNear 55 = .ok (.iinc 3 1, 3) := by decide +kernel
theorem dX11_keepNear_58 : decode cX11_keepNear 58 = .ok (.goto (-40), 3) := by decide +kernel
theorem dX11_keepNear_61 : decode cX11_keepNear 61 = .ok (.iload_n 2, 1) := by decide +kernel
theorem dX11_keepNear_62 : decode cX11_keepNear 62 = .ok (.ireturn, 1) := by decide +kernel
theorem dX11_heard_0 : decode cX11_heard 0 = .ok (.iload_n 1, 1) := by decide +kernel
theorem dX11_heard_1 : decode cX11_heard 1 = .ok (.invokestatic 115, 3) := by decide +kernel
theorem dX11_heard_4 : decode cX11_heard 4 = .ok (.ifCond .eq 19, 3) := by decide +kernel
theorem dX11_heard_7 : decode cX11_heard 7 = .ok (.iload_n 2, 1) := by decide +kernel
theorem dX11_heard_8 : decode cX11_heard 8 = .ok (.invokestatic 115, 3) := by decide +kernel
theorem dX11_heard_11 : decode cX11_heard 11 = .ok (.ifCond .eq 12, 3) := by decide +kernel
theorem dX11_heard_14 : decode cX11_heard 14 = .ok (.iload_n 3, 1) := by decide +kernel
theorem dX11_heard_15 : decode cX11_heard 15 = .ok (.ifCond .lt 8, 3) := by decide +kernel
theorem dX11_heard_18 : decode cX11_heard 18 = .ok (.iload_n 3, 1) := by decide +kernel
theorem dX11_heard_19 : decode cX11_heard 19 = .ok (.iconst 3, 1) := by decide +kernel
theorem dX11_heard_20 : decode cX11_heard 20 = .ok (.if_icmp .le 5, 3) := by decide +kernel
theorem dX11_heard_23 : decode cX11_heard 23 = .ok (.iconst (-1), 1) := by decide +kernel
theorem dX11_heard_24 : decode cX11_heard 24 = .ok (.ireturn, 1) := by decide +kernel
theorem dX11_heard_25 : decode cX11_heard 25 = .ok (.aload_n 0, 1) := by decide +kernel
theorem dX11_heard_26 : decode cX11_heard 26 = .ok (.getfield 19, 3) := by decide +kernel
theorem dX11_heard_29 : decode cX11_heard 29 = .ok (.iload_n 1, 1) := by decide +kernel
theorem dX11_heard_30 : decode cX11_heard 30 = .ok (.iload_n 2, 1) := by decide +kernel
theorem dX11_heard_31 : decode cX11_heard 31 = .ok (.invokevirtual 251, 3) := by decide +kernel
theorem dX11_heard_34 : decode cX11_heard 34 = .ok (.istore 4, 2) := by decide +kernel
theorem dX11_heard_36 : decode cX11_heard 36 = .ok (.iload 4, 2) := by decide +kernel
theorem dX11_heard_38 : decode cX11_heard 38 = .ok (.ifCond .ge 6, 3) := by decide +kernel
theorem dX11_heard_41 : decode cX11_heard 41 = .ok (.iload 4, 2) := by decide +kernel
theorem dX11_heard_43 : decode cX11_heard 43 = .ok (.ireturn, 1) := by decide +kernel
theorem dX11_heard_44 : decode cX11_heard 44 = .ok (.aload_n 0, 1) := by decide +kernel
theorem dX11_heard_45 : decode cX11_heard 45 = .ok (.getfield 60, 3) := by decide +kernel
theorem dX11_heard_48 : decode cX11_heard 48 = .ok (.aload_n 0, 1) := by decide +kernel
theorem dX11_heard_49 : decode cX11_heard 49 = .ok (.getfield 19, 3) := by decide +kernel
theorem dX11_heard_52 : decode cX11_heard 52 = .ok (.iload_n 1, 1) := by decide +kernel
theorem dX11_heard_53 : decode cX11_heard 53 = .ok (.aload_n 0, 1) := by decide +kernel
theorem dX11_heard_54 : decode cX11_heard 54 = .ok (.getfield 52, 3) := by decide +kernel
theorem dX11_heard_57 : decode cX11_heard 57 = .ok (.getfield 108, 3) := by decide +kernel
theorem dX11_heard_60 : decode cX11_heard 60 = .ok (.invokevirtual 254, 3) := by decide +kernel
theorem dX11_heard_63 : decode cX11_heard 63 = .ok (.aload_n 0, 1) := by decide +kernel
theorem dX11_heard_64 : decode cX11_heard 64 = .ok (.getfield 60, 3) := by decide +kernel
theorem dX11_heard_67 : decode cX11_heard 67 = .ok (.getfield 183, 3) := by decide +kernel
theorem dX11_heard_70 : decode cX11_heard 70 = .ok (.bipush 12, 2) := by decide +kernel
theorem dX11_heard_72 : decode cX11_heard 72 = .ok (.if_icmp .le 6, 3) := by decide +kernel
theorem dX11_heard_75 : decode cX11_heard 75 = .ok (.bipush (-5), 2) := by decide +kernel
theorem dX11_heard_77 : decode cX11_heard 77 = .ok (.ireturn, 1) := by decide +kernel
theorem dX11_heard_78 : decode cX11_heard 78 = .ok (.aload_n 0, 1) := by decide +kernel
theorem dX11_heard_79 : decode cX11_heard 79 = .ok (.getfield 100, 3) := by decide +kernel
theorem dX11_heard_82 : decode cX11_heard 82 = .ok (.aload_n 0, 1) := by decide +kernel
theorem dX11_heard_83 : decode cX11_heard 83 = .ok (.getfield 64, 3) := by decide +kernel
theorem dX11_heard_86 : decode cX11_heard 86 = .ok (.aload_n 0, 1) := by decide +kernel
theorem dX11_heard_87 : decode cX11_heard 87 = .ok (.getfield 19, 3) := by decide +kernel
theorem dX11_heard_90 : decode cX11_heard 90 = .ok (.iload_n 2, 1) := by decide +kernel
theorem dX11_heard_91 : decode cX11_heard 91 = .ok (.invokevirtual 258, 3) := by decide +kernel
theorem dX11_heard_94 : decode cX11_heard 94 = .ok (.iload_n 3, 1) := by decide +kernel
theorem dX11_heard_95 : decode cX11_heard 95 = .ok (.ifCond .ne 11, 3) := by decide +kernel
theorem dX11_heard_98 : decode cX11_heard 98 = .ok (.aload_n 0, 1) := by decide +kernel
theorem dX11_heard_99 : decode cX11_heard 99 = .ok (.getfield 100, 3) := by decide +kernel
theorem dX11_heard_102 : decode cX11_heard 102 = .ok (.getfield 262, 3) := by decide +kernel
theorem dX11_heard_105 : decode cX11_heard 105 = .ok (.ireturn, 1) := by decide +kernel
theorem dX11_heard_106 : decode cX11_heard 106 = .ok (.iload_n 3, 1) := by decide +kernel
theorem dX11_heard_107 : decode cX11_heard 107 = .ok (.iconst 1, 1) := by decide +kernel
theorem dX11_heard_108 : decode cX11_heard 108 = .ok (.if_icmp .ne 13, 3) := by decide +kernel
theorem dX11_heard_111 : decode cX11_heard 111 = .ok (.aload_n 0, 1) := by decide +kernel
theorem dX11_heard_112 : decode cX11_heard 112 = .ok (.getfield 100, 3) := by decide +kernel
theorem dX11_heard_115 : decode cX11_heard 115 = .ok (.getfield 265, 3) := by decide +kernel
theorem dX11_heard_118 : decode cX11_heard 118 = .ok (.goto 25, 3) := by decide +kernel
theorem dX11_heard_121 : decode cX11_heard 121 = .ok (.iload_n 3, 1) := by decide +kernel
theorem dX11_heard_122 : decode cX11_heard 122 = .ok (.iconst 2, 1) := by decide +kernel
theorem dX11_heard_123 : decode cX11_heard 123 = .ok (.if_icmp .ne 13, 3) := by decide +kernel
theorem dX11_heard_126 : decode cX11_heard 126 = .ok (.aload_n 0, 1) := by decide +kernel
theorem dX11_heard_127 : decode cX11_heard 127 = .ok (.getfield 100, 3) := by decide +kernel
theorem dX11_heard_130 : decode cX11_heard 130 = .ok (.getfield 266, 3) := by decide +kernel
theorem dX11_heard_133 : decode cX11_heard 133 = .ok (.goto 10, 3) := by decide +kernel
theorem dX11_heard_136 : decode cX11_heard 136 = .ok (.aload_n 0, 1) := by decide +kernel
theorem dX11_heard_137 : decode cX11_heard 137 = .ok (.getfield 100, 3) := by decide +kernel
theorem dX11_heard_140 : decode cX11_heard 140 = .ok (.getfield 269, 3) := by decide +kernel
theorem dX11_heard_143 : decode cX11_heard 143 = .ok (.ireturn, 1) := by decide +kernel
theorem dX11_drawn_0 : decode cX11_drawn 0 = .ok (.iload_n 2, 1) := by decide +kernel
theorem dX11_drawn_1 : decode cX11_drawn 1 = .ok (.ifCond .lt 19, 3) := by decide +kernel
theorem dX11_drawn_4 : decode cX11_drawn 4 = .ok (.iload_n 3, 1) := by decide +kernel
theorem dX11_drawn_5 : decode cX11_drawn 5 = .ok (.iconst (-1), 1) := by decide +kernel
theorem dX11_drawn_6 : decode cX11_drawn 6 = .ok (.if_icmp .lt 14, 3) := by decide +kernel
theorem dX11_drawn_9 : decode cX11_drawn 9 = .ok (.iload_n 3, 1) := by decide +kernel
theorem dX11_drawn_10 : decode cX11_drawn 10 = .ok (.aload_n 0, 1) := by decide +kernel
theorem dX11_drawn_11 : decode cX11_drawn 11 = .ok (.getfield 52, 3) := by decide +kernel
theorem dX11_drawn_14 : decode cX11_drawn 14 = .ok (.getfield 108, 3) := by decide +kernel
theorem dX11_drawn_17 : decode cX11_drawn 17 = .ok (.if_icmp .lt 5, 3) := by decide +kernel
theorem dX11_drawn_20 : decode cX11_drawn 20 = .ok (.iconst (-1), 1) := by decide +kernel
theorem dX11_drawn_21 : decode cX11_drawn 21 = .ok (.ireturn, 1) := by decide +kernel
theorem dX11_drawn_22 : decode cX11_drawn 22 = .ok (.iload_n 2, 1) := by decide +kernel
theorem dX11_drawn_23 : decode cX11_drawn 23 = .ok (.bipush 100, 2) := by decide +kernel
theorem dX11_drawn_25 : decode cX11_drawn 25 = .ok (.idiv, 1) := by decide +kernel
theorem dX11_drawn_26 : decode cX11_drawn 26 = .ok (.istore 4, 2) := by decide +kernel
theorem dX11_drawn_28 : decode cX11_drawn 28 = .ok (.iload_n 2, 1) := by decide +kernel
theorem dX11_drawn_29 : decode cX11_drawn 29 = .ok (.bipush 100, 2) := by decide +kernel
theorem dX11_drawn_31 : decode cX11_drawn 31 = .ok (.irem, 1) := by decide +kernel
theorem dX11_drawn_32 : decode cX11_drawn 32 = .ok (.istore 5, 2) := by decide +kernel
theorem dX11_drawn_34 : decode cX11_drawn 34 = .ok (.iload 4, 2) := by decide +kernel
theorem dX11_drawn_36 : decode cX11_drawn 36 = .ok (.iconst 1, 1) := by decide +kernel
theorem dX11_drawn_37 : decode cX11_drawn 37 = .ok (.if_icmp .lt 23, 3) := by decide +kernel
theorem dX11_drawn_40 : decode cX11_drawn 40 = .ok (.iload 4, 2) := by decide +kernel
theorem dX11_drawn_42 : decode cX11_drawn 42 = .ok (.bipush 30, 2) := by decide +kernel
theorem dX11_drawn_44 : decode cX11_drawn 44 = .ok (.if_icmp .gt 16, 3) := by decide +kernel
theorem dX11_drawn_47 : decode cX11_drawn 47 = .ok (.iload 5, 2) := by decide +kernel
theorem dX11_drawn_49 : decode cX11_drawn 49 = .ok (.iconst 1, 1) := by decide +kernel
theorem dX11_drawn_50 : decode cX11_drawn 50 = .ok (.if_icmp .lt 10, 3) := by decide +kernel
theorem dX11_drawn_53 : decode cX11_drawn 53 = .ok (.iload 5, 2) := by decide +kernel
theorem dX11_drawn_55 : decode cX11_drawn 55 = .ok (.bipush 40, 2) := by decide +kernel
theorem dX11_drawn_57 : decode cX11_drawn 57 = .ok (.if_icmp .le 5, 3) := by decide +kernel
theorem dX11_drawn_60 : decode cX11_drawn 60 = .ok (.iconst (-1), 1) := by decide +kernel
theorem dX11_drawn_61 : decode cX11_drawn 61 = .ok (.ireturn, 1) := by decide +kernel
theorem dX11_drawn_62 : decode cX11_drawn 62 = .ok (.aload_n 0, 1) := by decide +kernel
theorem dX11_drawn_63 : decode cX11_drawn 63 = .ok (.getfield 52, 3) := by decide +kernel
theorem dX11_drawn_66 : decode cX11_drawn 66 = .ok (.getfield 108, 3) := by decide +kernel
theorem dX11_drawn_69 : decode cX11_drawn 69 = .ok (.ifCond .ne 5, 3) := by decide +kernel
theorem dX11_drawn_72 : decode cX11_drawn 72 = .ok (.iconst 0, 1) := by decide +kernel
theorem dX11_drawn_73 : decode cX11_drawn 73 = .ok (.ireturn, 1) := by decide +kernel
theorem dX11_drawn_74 : decode cX11_drawn 74 = .ok (.iload_n 1, 1) := by decide +kernel
theorem dX11_drawn_75 : decode cX11_drawn 75 = .ok (.istore 6, 2) := by decide +kernel
theorem dX11_drawn_77 : decode cX11_drawn 77 = .ok (.iconst 0, 1) := by decide +kernel
theorem dX11_drawn_78 : decode cX11_drawn 78 = .ok (.istore 7, 2) := by decide +kernel
theorem dX11_drawn_80 : decode cX11_drawn 80 = .ok (.iconst 0, 1) := by decide +kernel
theorem dX11_drawn_81 : decode cX11_drawn 81 = .ok (.istore 8, 2) := by decide +kernel
theorem dX11_drawn_83 : decode cX11_drawn 83 = .ok (.iconst 0, 1) := by decide +kernel
theorem dX11_drawn_84 : decode cX11_drawn 84 = .ok (.istore 9, 2) := by decide +kernel
theorem dX11_drawn_86 : decode cX11_drawn 86 = .ok (.iload 9, 2) := by decide +kernel
theorem dX11_drawn_88 : decode cX11_drawn 88 = .ok (.iload 4, 2) := by decide +kernel
theorem dX11_drawn_90 : decode cX11_drawn 90 = .ok (.if_icmp .ge 117, 3) := by decide +kernel
theorem dX11_drawn_93 : decode cX11_drawn 93 = .ok (.aload_n 0, 1) := by decide +kernel
theorem dX11_drawn_94 : decode cX11_drawn 94 = .ok (.getfield 68, 3) := by decide +kernel
theorem dX11_drawn_97 : decode cX11_drawn 97 = .ok (.aload_n 0, 1) := by decide +kernel
theorem dX11_drawn_98 : decode cX11_drawn 98 = .ok (.getfield 64, 3) := by decide +kernel
theorem dX11_drawn_101 : decode cX11_drawn 101 = .ok (.invokevirtual 163, 3) := by decide +kernel
theorem dX11_drawn_104 : decode cX11_drawn 104 = .ok (.iconst 0, 1) := by decide +kernel
theorem dX11_drawn_105 : decode cX11_drawn 105 = .ok (.istore 10, 2) := by decide +kernel
theorem dX11_drawn_107 : decode cX11_drawn 107 = .ok (.iload 10, 2) := by decide +kernel
theorem dX11_drawn_109 : decode cX11_drawn 109 = .ok (.iload 5, 2) := by decide +kernel
theorem dX11_drawn_111 : decode cX11_drawn 111 = .ok (.if_icmp .ge 78, 3) := by decide +kernel
theorem dX11_drawn_114 : decode cX11_drawn 114 = .ok (.iload 6, 2) := by decide +kernel
theorem dX11_drawn_116 : decode cX11_drawn 116 = .ok (.ldc_w 272, 3) := by decide +kernel
theorem dX11_drawn_119 : decode cX11_drawn 119 = .ok (.imul, 1) := by decide +kernel
theorem dX11_drawn_120 : decode cX11_drawn 120 = .ok (.sipush 12345, 3) := by decide +kernel
theorem dX11_drawn_123 : decode cX11_drawn 123 = .ok (.iadd, 1) := by decide +kernel
theorem dX11_drawn_124 : decode cX11_drawn 124 = .ok (.istore 6, 2) := by decide +kernel
theorem dX11_drawn_126 : decode cX11_drawn 126 = .ok (.iload 6, 2) := by decide +kernel
theorem dX11_drawn_128 : decode cX11_drawn 128 = .ok (.bipush 8, 2) := by decide +kernel
theorem dX11_drawn_130 : decode cX11_drawn 130 = .ok (.iushr, 1) := by decide +kernel
theorem dX11_drawn_131 : decode cX11_drawn 131 = .ok (.aload_n 0, 1) := by decide +kernel
theorem dX11_drawn_132 : decode cX11_drawn 132 = .ok (.getfield 52, 3) := by decide +kernel
theorem dX11_drawn_135 : decode cX11_drawn 135 = .ok (.getfield 108, 3) := by decide +kernel
theorem dX11_drawn_138 : decode cX11_drawn 138 = .ok (.irem, 1) := by decide +kernel
theorem dX11_drawn_139 : decode cX11_drawn 139 = .ok (.istore 11, 2) := by decide +kernel
theorem dX11_drawn_141 : decode cX11_drawn 141 = .ok (.aload_n 0, 1) := by decide +kernel
theorem dX11_drawn_142 : decode cX11_drawn 142 = .ok (.getfield 68, 3) := by decide +kernel
theorem dX11_drawn_145 : decode cX11_drawn 145 = .ok (.iload 11, 2) := by decide +kernel
theorem dX11_drawn_147 : decode cX11_drawn 147 = .ok (.iload 6, 2) := by decide +kernel
theorem dX11_drawn_149 : decode cX11_drawn 149 = .ok (.bipush 16, 2) := by decide +kernel
theorem dX11_drawn_151 : decode cX11_drawn 151 = .ok (.iushr, 1) := by decide +kernel
theorem dX11_drawn_152 : decode cX11_drawn 152 = .ok (.bipush 12, 2) := by decide +kernel
theorem dX11_drawn_154 : decode cX11_drawn 154 = .ok (.irem, 1) := by decide +kernel
theorem dX11_drawn_155 : decode cX11_drawn 155 = .ok (.aload_n 0, 1) := by decide +kernel
theorem dX11_drawn_156 : decode cX11_drawn 156 = .ok (.getfield 52, 3) := by decide +kernel
theorem dX11_drawn_159 : decode cX11_drawn 159 = .ok (.getfield 273, 3) := by decide +kernel
theorem dX11_drawn_162 : decode cX11_drawn 162 = .ok (.iload 11, 2) := by decide +kernel
theorem dX11_drawn_164 : decode cX11_drawn 164 = .ok (.iaload, 1) := by decide +kernel
theorem dX11_drawn_165 : decode cX11_drawn 165 = .ok (.if_icmp .ge 7, 3) := by decide +kernel
theorem dX11_drawn_168 : decode cX11_drawn 168 = .ok (.iconst 1, 1) := by decide +kernel
theorem dX11_drawn_169 : decode cX11_drawn 169 = .ok (.goto 4, 3) := by decide +kernel
theorem dX11_drawn_172 : decode cX11_drawn 172 = .ok (.iconst 0, 1) := by decide +kernel
theorem dX11_drawn_173 : decode cX11_drawn 173 = .ok (.invokevirtual 195, 3) := by decide +kernel
theorem dX11_drawn_176 : decode cX11_drawn 176 = .ok (.iload_n 3, 1) := by decide +kernel
theorem dX11_drawn_177 : decode cX11_drawn 177 = .ok (.if_icmp .ne 6, 3) := by decide +kernel
theorem dX11_drawn_180 : decode cX11_drawn 180 = .ok (.iinc 7 1, 3) := by decide +kernel
theorem dX11_drawn_183 : decode cX11_drawn 183 = .ok (.iinc 10 1, 3) := by decide +kernel
theorem dX11_drawn_186 : decode cX11_drawn 186 = .ok (.goto (-79), 3) := by decide +kernel
theorem dX11_drawn_189 : decode cX11_drawn 189 = .ok (.iload 8, 2) := by decide +kernel
theorem dX11_drawn_191 : decode cX11_drawn 191 = .ok (.aload_n 0, 1) := by decide +kernel
theorem dX11_drawn_192 : decode cX11_drawn 192 = .ok (.getfield 68, 3) := by decide +kernel
theorem dX11_drawn_195 : decode cX11_drawn 195 = .ok (.getfield 186, 3) := by decide +kernel
theorem dX11_drawn_198 : decode cX11_drawn 198 = .ok (.iadd, 1) := by decide +kernel
theorem dX11_drawn_199 : decode cX11_drawn 199 = .ok (.istore 8, 2) := by decide +kernel
theorem dX11_drawn_201 : decode cX11_drawn 201 = .ok (.iinc 9 1, 3) := by decide +kernel
theorem dX11_drawn_204 : decode cX11_drawn 204 = .ok (.goto (-118), 3) := by decide +kernel
theorem dX11_drawn_207 : decode cX11_drawn 207 = .ok (.iload_n 3, 1) := by decide +kernel
theorem dX11_drawn_208 : decode cX11_drawn 208 = .ok (.iconst (-1), 1) := by decide +kernel
theorem dX11_drawn_209 : decode cX11_drawn 209 = .ok (.if_icmp .ne 8, 3) := by decide +kernel
theorem dX11_drawn_212 : decode cX11_drawn 212 = .ok (.iload 8, 2) := by decide +kernel
theorem dX11_drawn_214 : decode cX11_drawn 214 = .ok (.goto 5, 3) := by decide +kernel
theorem dX11_drawn_217 : decode cX11_drawn 217 = .ok (.iload 7, 2) := by decide +kernel
theorem dX11_drawn_219 : decode cX11_drawn 219 = .ok (.ireturn, 1) := by decide +kernel
theorem dX11_say_0 : decode cX11_say 0 = .ok (.aload_n 0, 1) := by decide +kernel
theorem dX11_say_1 : decode cX11_say 1 = .ok (.getfield 52, 3) := by decide +kernel
theorem dX11_say_4 : decode cX11_say 4 = .ok (.iload_n 1, 1) := by decide +kernel
theorem dX11_say_5 : decode cX11_say 5 = .ok (.invokevirtual 160, 3) := by decide +kernel
theorem dX11_say_8 : decode cX11_say 8 = .ok (.ifCond .eq 12, 3) := by decide +kernel
theorem dX11_say_11 : decode cX11_say 11 = .ok (.iload_n 2, 1) := by decide +kernel
theorem dX11_say_12 : decode cX11_say 12 = .ok (.ifCond .lt 8, 3) := by decide +kernel
theorem dX11_say_15 : decode cX11_say 15 = .ok (.iload_n 2, 1) := by decide +kernel
theorem dX11_say_16 : decode cX11_say 16 = .ok (.iconst 1, 1) := by decide +kernel
theorem dX11_say_17 : decode cX11_say 17 = .ok (.if_icmp .le 5, 3) := by decide +kernel
theorem dX11_say_20 : decode cX11_say 20 = .ok (.iconst (-1), 1) := by decide +kernel
theorem dX11_say_21 : decode cX11_say 21 = .ok (.ireturn, 1) := by decide +kernel
theorem dX11_say_22 : decode cX11_say 22 = .ok (.aload_n 0, 1) := by decide +kernel
theorem dX11_say_23 : decode cX11_say 23 = .ok (.getfield 64, 3) := by decide +kernel
theorem dX11_say_26 : decode cX11_say 26 = .ok (.iload_n 1, 1) := by decide +kernel
theorem dX11_say_27 : decode cX11_say 27 = .ok (.iload_n 2, 1) := by decide +kernel
theorem dX11_say_28 : decode cX11_say 28 = .ok (.iconst 1, 1) := by decide +kernel
theorem dX11_say_29 : decode cX11_say 29 = .ok (.if_icmp .ne 7, 3) := by decide +kernel
theorem dX11_say_32 : decode cX11_say 32 = .ok (.iconst 1, 1) := by decide +kernel
theorem dX11_say_33 : decode cX11_say 33 = .ok (.goto 4, 3) := by decide +kernel
theorem dX11_say_36 : decode cX11_say 36 = .ok (.iconst 0, 1) := by decide +kernel
theorem dX11_say_37 : decode cX11_say 37 = .ok (.invokevirtual 195, 3) := by decide +kernel
theorem dX11_say_40 : decode cX11_say 40 = .ok (.ireturn, 1) := by decide +kernel
theorem dX11_go_0 : decode cX11_go 0 = .ok (.aload_n 0, 1) := by decide +kernel
theorem dX11_go_1 : decode cX11_go 1 = .ok (.getfield 52, 3) := by decide +kernel
theorem dX11_go_4 : decode cX11_go 4 = .ok (.iload_n 1, 1) := by decide +kernel
theorem dX11_go_5 : decode cX11_go 5 = .ok (.invokevirtual 160, 3) := by decide +kernel
theorem dX11_go_8 : decode cX11_go 8 = .ok (.ifCond .eq 10, 3) := by decide +kernel
theorem dX11_go_11 : decode cX11_go 11 = .ok (.iload_n 2, 1) := by decide +kernel
theorem dX11_go_12 : decode cX11_go 12 = .ok (.invokestatic 104, 3) := by decide +kernel
theorem dX11_go_15 : decode cX11_go 15 = .ok (.ifCond .ne 5, 3) := by decide +kernel
theorem dX11_go_18 : decode cX11_go 18 = .ok (.iconst (-1), 1) := by decide +kernel
theorem dX11_go_19 : decode cX11_go 19 = .ok (.ireturn, 1) := by decide +kernel
theorem dX11_go_20 : decode cX11_go 20 = .ok (.aload_n 0, 1) := by decide +kernel
theorem dX11_go_21 : decode cX11_go 21 = .ok (.getfield 52, 3) := by decide +kernel
theorem dX11_go_24 : decode cX11_go 24 = .ok (.getfield 221, 3) := by decide +kernel
theorem dX11_go_27 : decode cX11_go 27 = .ok (.iload_n 1, 1) := by decide +kernel
theorem dX11_go_28 : decode cX11_go 28 = .ok (.iaload, 1) := by decide +kernel
theorem dX11_go_29 : decode cX11_go 29 = .ok (.istore_n 3, 1) := by decide +kernel
theorem dX11_go_30 : decode cX11_go 30 = .ok (.aload_n 0, 1) := by decide +kernel
theorem dX11_go_31 : decode cX11_go 31 = .ok (.getfield 52, 3) := by decide +kernel
theorem dX11_go_34 : decode cX11_go 34 = .ok (.iload_n 1, 1) := by decide +kernel
theorem dX11_go_35 : decode cX11_go 35 = .ok (.iload_n 2, 1) := by decide +kernel
theorem dX11_go_36 : decode cX11_go 36 = .ok (.invokevirtual 224, 3) := by decide +kernel
theorem dX11_go_39 : decode cX11_go 39 = .ok (.iload_n 3, 1) := by decide +kernel
theorem dX11_go_40 : decode cX11_go 40 = .ok (.ireturn, 1) := by decide +kernel
theorem dX11_pad_0 : decode cX11_pad 0 = .ok (.aload_n 0, 1) := by decide +kernel
theorem dX11_pad_1 : decode cX11_pad 1 = .ok (.getfield 52, 3) := by decide +kernel
theorem dX11_pad_4 : decode cX11_pad 4 = .ok (.iload_n 1, 1) := by decide +kernel
theorem dX11_pad_5 : decode cX11_pad 5 = .ok (.invokevirtual 160, 3) := by decide +kernel
theorem dX11_pad_8 : decode cX11_pad 8 = .ok (.ifCond .ne 5, 3) := by decide +kernel
theorem dX11_pad_11 : decode cX11_pad 11 = .ok (.iconst (-1), 1) := by decide +kernel
theorem dX11_pad_12 : decode cX11_pad 12 = .ok (.ireturn, 1) := by decide +kernel
theorem dX11_pad_13 : decode cX11_pad 13 = .ok (.aload_n 0, 1) := by decide +kernel
theorem dX11_pad_14 : decode cX11_pad 14 = .ok (.getfield 64, 3) := by decide +kernel
theorem dX11_pad_17 : decode cX11_pad 17 = .ok (.getfield 241, 3) := by decide +kernel
theorem dX11_pad_20 : decode cX11_pad 20 = .ok (.iload_n 1, 1) := by decide +kernel
theorem dX11_pad_21 : decode cX11_pad 21 = .ok (.getstatic 137, 3) := by decide +kernel
theorem dX11_pad_24 : decode cX11_pad 24 = .ok (.iconst 2, 1) := by decide +kernel
theorem dX11_pad_25 : decode cX11_pad 25 = .ok (.iaload, 1) := by decide +kernel
theorem dX11_pad_26 : decode cX11_pad 26 = .ok (.aload_n 0, 1) := by decide +kernel
theorem dX11_pad_27 : decode cX11_pad 27 = .ok (.getfield 64, 3) := by decide +kernel
theorem dX11_pad_30 : decode cX11_pad 30 = .ok (.getfield 241, 3) := by decide +kernel
theorem dX11_pad_33 : decode cX11_pad 33 = .ok (.iload_n 1, 1) := by decide +kernel
theorem dX11_pad_34 : decode cX11_pad 34 = .ok (.iaload, 1) := by decide +kernel
theorem dX11_pad_35 : decode cX11_pad 35 = .ok (.iconst 1, 1) := by decide +kernel
theorem dX11_pad_36 : decode cX11_pad 36 = .ok (.iadd, 1) := by decide +kernel
theorem dX11_pad_37 : decode cX11_pad 37 = .ok (.invokestatic 276, 3) := by decide +kernel
theorem dX11_pad_40 : decode cX11_pad 40 = .ok (.iastore, 1) := by decide +kernel
theorem dX11_pad_41 : decode cX11_pad 41 = .ok (.aload_n 0, 1) := by decide +kernel
theorem dX11_pad_42 : decode cX11_pad 42 = .ok (.getfield 64, 3) := by decide +kernel
theorem dX11_pad_45 : decode cX11_pad 45 = .ok (.getfield 241, 3) := by decide +kernel
theorem dX11_pad_48 : decode cX11_pad 48 = .ok (.iload_n 1, 1) := by decide +kernel
theorem dX11_pad_49 : decode cX11_pad 49 = .ok (.iaload, 1) := by decide +kernel
theorem dX11_pad_50 : decode cX11_pad 50 = .ok (.ireturn, 1) := by decide +kernel
theorem dX11_led_0 : decode cX11_led 0 = .ok (.iload_n 1, 1) := by decide +kernel
theorem dX11_led_1 : decode cX11_led 1 = .ok (.tableswitch 99 0 6 #[43, 51, 59, 67, 75, 83, 91], 43) := by decide +kernel
theorem dX11_led_44 : decode cX11_led 44 = .ok (.aload_n 0, 1) := by decide +kernel
theorem dX11_led_45 : decode cX11_led 45 = .ok (.getfield 64, 3) := by decide +kernel
theorem dX11_led_48 : decode cX11_led 48 = .ok (.getfield 281, 3) := by decide +kernel
theorem dX11_led_51 : decode cX11_led 51 = .ok (.ireturn, 1) := by decide +kernel
theorem dX11_led_52 : decode cX11_led 52 = .ok (.aload_n 0, 1) := by decide +kernel
theorem dX11_led_53 : decode cX11_led 53 = .ok (.getfield 64, 3) := by decide +kernel
theorem dX11_led_56 : decode cX11_led 56 = .ok (.getfield 284, 3) := by decide +kernel
theorem dX11_led_59 : decode cX11_led 59 = .ok (.ireturn, 1) := by decide +kernel
theorem dX11_led_60 : decode cX11_led 60 = .ok (.aload_n 0, 1) := by decide +kernel
theorem dX11_led_61 : decode cX11_led 61 = .ok (.getfield 64, 3) := by decide +kernel
theorem dX11_led_64 : decode cX11_led 64 = .ok (.getfield 287, 3) := by decide +kernel
theorem dX11_led_67 : decode cX11_led 67 = .ok (.ireturn, 1) := by decide +kernel
theorem dX11_led_68 : decode cX11_led 68 = .ok (.aload_n 0, 1) := by decide +kernel
theorem dX11_led_69 : decode cX11_led 69 = .ok (.getfield 64, 3) := by decide +kernel
theorem dX11_led_72 : decode cX11_led 72 = .ok (.getfield 290, 3) := by decide +kernel
theorem dX11_led_75 : decode cX11_led 75 = .ok (.ireturn, 1) := by decide +kernel
theorem dX11_led_76 : decode cX11_led 76 = .ok (.aload_n 0, 1) := by decide +kernel
theorem dX11_led_77 : decode cX11_led 77 = .ok (.getfield 64, 3) := by decide +kernel
theorem dX11_led_80 : decode cX11_led 80 = .ok (.getfield 186, 3) := by decide +kernel
theorem dX11_led_83 : decode cX11_led 83 = .ok (.ireturn, 1) := by decide +kernel
theorem dX11_led_84 : decode cX11_led 84 = .ok (.aload_n 0, 1) := by decide +kernel
theorem dX11_led_85 : decode cX11_led 85 = .ok (.getfield 64, 3) := by decide +kernel
theorem dX11_led_88 : decode cX11_led 88 = .ok (.getfield 177, 3) := by decide +kernel
theorem dX11_led_91 : decode cX11_led 91 = .ok (.ireturn, 1) := by decide +kernel
theorem dX11_led_92 : decode cX11_led 92 = .ok (.aload_n 0, 1) := by decide +kernel
theorem dX11_led_93 : decode cX11_led 93 = .ok (.getfield 64, 3) := by decide +kernel
theorem dX11_led_96 : decode cX11_led 96 = .ok (.getfield 180, 3) := by decide +kernel
theorem dX11_led_99 : decode cX11_led 99 = .ok (.ireturn, 1) := by decide +kernel
theorem dX11_led_100 : decode cX11_led 100 = .ok (.iconst (-1), 1) := by decide +kernel
theorem dX11_led_101 : decode cX11_led 101 = .ok (.ireturn, 1) := by decide +kernel
theorem dX11_image_0 : decode cX11_image 0 = .ok (.aload_n 0, 1) := by decide +kernel
theorem dX11_image_1 : decode cX11_image 1 = .ok (.aload_n 0, 1) := by decide +kernel
theorem dX11_image_2 : decode cX11_image 2 = .ok (.getfield 52, 3) := by decide +kernel
theorem dX11_image_5 : decode cX11_image 5 = .ok (.getfield 108, 3) := by decide +kernel
theorem dX11_image_8 : decode cX11_image 8 = .ok (.putfield 34, 3) := by decide +kernel
theorem dX11_image_11 : decode cX11_image 11 = .ok (.aload_n 0, 1) := by decide +kernel
theorem dX11_image_12 : decode cX11_image 12 = .ok (.getfield 52, 3) := by decide +kernel
theorem dX11_image_15 : decode cX11_image 15 = .ok (.getfield 221, 3) := by decide +kernel
theorem dX11_image_18 : decode cX11_image 18 = .ok (.iconst 0, 1) := by decide +kernel
theorem dX11_image_19 : decode cX11_image 19 = .ok (.aload_n 0, 1) := by decide +kernel
theorem dX11_image_20 : decode cX11_image 20 = .ok (.getfield 30, 3) := by decide +kernel
theorem dX11_image_23 : decode cX11_image 23 = .ok (.iconst 0, 1) := by decide +kernel
theorem dX11_image_24 : decode cX11_image 24 = .ok (.bipush 8, 2) := by decide +kernel
theorem dX11_image_26 : decode cX11_image 26 = .ok (.invokestatic 291, 3) := by decide +kernel
theorem dX11_image_29 : decode cX11_image 29 = .ok (.aload_n 0, 1) := by decide +kernel
theorem dX11_image_30 : decode cX11_image 30 = .ok (.getfield 74, 3) := by decide +kernel
theorem dX11_image_33 : decode cX11_image 33 = .ok (.aload_n 0, 1) := by decide +kernel
theorem dX11_image_34 : decode cX11_image 34 = .ok (.getfield 64, 3) := by decide +kernel
theorem dX11_image_37 : decode cX11_image 37 = .ok (.bipush 8, 2) := by decide +kernel
theorem dX11_image_39 : decode cX11_image 39 = .ok (.invokevirtual 205, 3) := by decide +kernel
theorem dX11_image_42 : decode cX11_image 42 = .ok (.aload_n 0, 1) := by decide +kernel
theorem dX11_image_43 : decode cX11_image 43 = .ok (.getfield 64, 3) := by decide +kernel
theorem dX11_image_46 : decode cX11_image 46 = .ok (.getfield 281, 3) := by decide +kernel
theorem dX11_image_49 : decode cX11_image 49 = .ok (.ireturn, 1) := by decide +kernel
theorem dX11_back_0 : decode cX11_back 0 = .ok (.aload_n 0, 1) := by decide +kernel
theorem dX11_back_1 : decode cX11_back 1 = .ok (.getfield 34, 3) := by decide +kernel
theorem dX11_back_4 : decode cX11_back 4 = .ok (.ifCond .ge 6, 3) := by decide +kernel
theorem dX11_back_7 : decode cX11_back 7 = .ok (.bipush (-5), 2) := by decide +kernel
theorem dX11_back_9 : decode cX11_back 9 = .ok (.ireturn, 1) := by decide +kernel
theorem dX11_back_10 : decode cX11_back 10 = .ok (.aload_n 0, 1) := by decide +kernel
theorem dX11_back_11 : decode cX11_back 11 = .ok (.getfield 64, 3) := by decide +kernel
theorem dX11_back_14 : decode cX11_back 14 = .ok (.getfield 177, 3) := by decide +kernel
theorem dX11_back_17 : decode cX11_back 17 = .ok (.aload_n 0, 1) := by decide +kernel
theorem dX11_back_18 : decode cX11_back 18 = .ok (.getfield 34, 3) := by decide +kernel
theorem dX11_back_21 : decode cX11_back 21 = .ok (.if_icmp .lt 7, 3) := by decide +kernel
theorem dX11_back_24 : decode cX11_back 24 = .ok (.iconst 1, 1) := by decide +kernel
theorem dX11_back_25 : decode cX11_back 25 = .ok (.goto 4, 3) := by decide +kernel
theorem dX11_back_28 : decode cX11_back 28 = .ok (.iconst 0, 1) := by decide +kernel
theorem dX11_back_29 : decode cX11_back 29 = .ok (.istore_n 1, 1) := by decide +kernel
theorem dX11_back_30 : decode cX11_back 30 = .ok (.iconst 0, 1) := by decide +kernel
theorem dX11_back_31 : decode cX11_back 31 = .ok (.istore_n 2, 1) := by decide +kernel
theorem dX11_back_32 : decode cX11_back 32 = .ok (.iload_n 2, 1) := by decide +kernel
theorem dX11_back_33 : decode cX11_back 33 = .ok (.aload_n 0, 1) := by decide +kernel
theorem dX11_back_34 : decode cX11_back 34 = .ok (.getfield 34, 3) := by decide +kernel
theorem dX11_back_37 : decode cX11_back 37 = .ok (.if_icmp .ge 23, 3) := by decide +kernel
theorem dX11_back_40 : decode cX11_back 40 = .ok (.aload_n 0, 1) := by decide +kernel
theorem dX11_back_41 : decode cX11_back 41 = .ok (.getfield 52, 3) := by decide +kernel
theorem dX11_back_44 : decode cX11_back 44 = .ok (.iload_n 2, 1) := by decide +kernel
theorem dX11_back_45 : decode cX11_back 45 = .ok (.aload_n 0, 1) := by decide +kernel
theorem dX11_back_46 : decode cX11_back 46 = .ok (.getfield 30, 3) := by decide +kernel
theorem dX11_back_49 : decode cX11_back 49 = .ok (.iload_n 2, 1) := by decide +kernel
theorem dX11_back_50 : decode cX11_back 50 = .ok (.iaload, 1) := by decide +kernel
theorem dX11_back_51 : decode cX11_back 51 = .ok (.invokevirtual 224, 3) := by decide +kernel
theorem dX11_back_54 : decode cX11_back 54 = .ok (.iinc 2 1, 3) := by decide +kernel
theorem dX11_back_57 : decode cX11_back 57 = .ok (.goto (-25), 3) := by decide +kernel
theorem dX11_back_60 : decode cX11_back 60 = .ok (.aload_n 0, 1) := by decide +kernel
theorem dX11_back_61 : decode cX11_back 61 = .ok (.getfield 64, 3) := by decide +kernel
theorem dX11_back_64 : decode cX11_back 64 = .ok (.aload_n 0, 1) := by decide +kernel
theorem dX11_back_65 : decode cX11_back 65 = .ok (.getfield 74, 3) := by decide +kernel
theorem dX11_back_68 : decode cX11_back 68 = .ok (.aload_n 0, 1) := by decide +kernel
theorem dX11_back_69 : decode cX11_back 69 = .ok (.getfield 34, 3) := by decide +kernel
theorem dX11_back_72 : decode cX11_back 72 = .ok (.invokevirtual 205, 3) := by decide +kernel
theorem dX11_back_75 : decode cX11_back 75 = .ok (.iload_n 1, 1) := by decide +kernel
theorem dX11_back_76 : decode cX11_back 76 = .ok (.ifCond .eq 12, 3) := by decide +kernel
theorem dX11_back_79 : decode cX11_back 79 = .ok (.aload_n 0, 1) := by decide +kernel
theorem dX11_back_80 : decode cX11_back 80 = .ok (.getfield 64, 3) := by decide +kernel
theorem dX11_back_83 : decode cX11_back 83 = .ok (.bipush (-2), 2) := by decide +kernel
theorem dX11_back_85 : decode cX11_back 85 = .ok (.putfield 177, 3) := by decide +kernel
theorem dX11_back_88 : decode cX11_back 88 = .ok (.aload_n 0, 1) := by decide +kernel
theorem dX11_back_89 : decode cX11_back 89 = .ok (.getfield 64, 3) := by decide +kernel
theorem dX11_back_92 : decode cX11_back 92 = .ok (.getfield 281, 3) := by decide +kernel
theorem dX11_back_95 : decode cX11_back 95 = .ok (.ireturn, 1) := by decide +kernel
theorem dX11_undo_0 : decode cX11_undo 0 = .ok (.aload_n 0, 1) := by decide +kernel
theorem dX11_undo_1 : decode cX11_undo 1 = .ok (.getfield 10, 3) := by decide +kernel
theorem dX11_undo_4 : decode cX11_undo 4 = .ok (.getfield 297, 3) := by decide +kernel
theorem dX11_undo_7 : decode cX11_undo 7 = .ok (.ifCond .ne 6, 3) := by decide +kernel
theorem dX11_undo_10 : decode cX11_undo 10 = .ok (.bipush (-5), 2) := by decide +kernel
theorem dX11_undo_12 : decode cX11_undo 12 = .ok (.ireturn, 1) := by decide +kernel
theorem dX11_undo_13 : decode cX11_undo 13 = .ok (.aload_n 0, 1) := by decide +kernel
theorem dX11_undo_14 : decode cX11_undo 14 = .ok (.getfield 10, 3) := by decide +kernel
theorem dX11_undo_17 : decode cX11_undo 17 = .ok (.dup, 1) := by decide +kernel
theorem dX11_undo_18 : decode cX11_undo 18 = .ok (.getfield 297, 3) := by decide +kernel
theorem dX11_undo_21 : decode cX11_undo 21 = .ok (.iconst 1, 1) := by decide +kernel
theorem dX11_undo_22 : decode cX11_undo 22 = .ok (.isub, 1) := by decide +kernel
theorem dX11_undo_23 : decode cX11_undo 23 = .ok (.putfield 297, 3) := by decide +kernel
theorem dX11_undo_26 : decode cX11_undo 26 = .ok (.aload_n 0, 1) := by decide +kernel
theorem dX11_undo_27 : decode cX11_undo 27 = .ok (.getfield 10, 3) := by decide +kernel
theorem dX11_undo_30 : decode cX11_undo 30 = .ok (.getfield 297, 3) := by decide +kernel
theorem dX11_undo_33 : decode cX11_undo 33 = .ok (.istore_n 1, 1) := by decide +kernel
theorem dX11_undo_34 : decode cX11_undo 34 = .ok (.aload_n 0, 1) := by decide +kernel
theorem dX11_undo_35 : decode cX11_undo 35 = .ok (.aload_n 0, 1) := by decide +kernel
theorem dX11_undo_36 : decode cX11_undo 36 = .ok (.getfield 10, 3) := by decide +kernel
theorem dX11_undo_39 : decode cX11_undo 39 = .ok (.getfield 300, 3) := by decide +kernel
theorem dX11_undo_42 : decode cX11_undo 42 = .ok (.iload_n 1, 1) := by decide +kernel
theorem dX11_undo_43 : decode cX11_undo 43 = .ok (.iaload, 1) := by decide +kernel
theorem dX11_undo_44 : decode cX11_undo 44 = .ok (.aload_n 0, 1) := by decide +kernel
theorem dX11_undo_45 : decode cX11_undo 45 = .ok (.getfield 10, 3) := by decide +kernel
theorem dX11_undo_48 : decode cX11_undo 48 = .ok (.getfield 303, 3) := by decide +kernel
theorem dX11_undo_51 : decode cX11_undo 51 = .ok (.iload_n 1, 1) := by decide +kernel
theorem dX11_undo_52 : decode cX11_undo 52 = .ok (.iaload, 1) := by decide +kernel
theorem dX11_undo_53 : decode cX11_undo 53 = .ok (.aload_n 0, 1) := by decide +kernel
theorem dX11_undo_54 : decode cX11_undo 54 = .ok (.getfield 10, 3) := by decide +kernel
theorem dX11_undo_57 : decode cX11_undo 57 = .ok (.getfield 306, 3) := by decide +kernel
theorem dX11_undo_60 : decode cX11_undo 60 = .ok (.iload_n 1, 1) := by decide +kernel
theorem dX11_undo_61 : decode cX11_undo 61 = .ok (.iaload, 1) := by decide +kernel
theorem dX11_undo_62 : decode cX11_undo 62 = .ok (.invokevirtual 148, 3) := by decide +kernel
theorem dX11_undo_65 : decode cX11_undo 65 = .ok (.aload_n 0, 1) := by decide +kernel
theorem dX11_undo_66 : decode cX11_undo 66 = .ok (.getfield 10, 3) := by decide +kernel
theorem dX11_undo_69 : decode cX11_undo 69 = .ok (.getfield 297, 3) := by decide +kernel
theorem dX11_undo_72 : decode cX11_undo 72 = .ok (.ireturn, 1) := by decide +kernel
theorem dX11_redo_0 : decode cX11_redo 0 = .ok (.aload_n 0, 1) := by decide +kernel
theorem dX11_redo_1 : decode cX11_redo 1 = .ok (.getfield 10, 3) := by decide +kernel
theorem dX11_redo_4 : decode cX11_redo 4 = .ok (.getfield 297, 3) := by decide +kernel
theorem dX11_redo_7 : decode cX11_redo 7 = .ok (.aload_n 0, 1) := by decide +kernel
theorem dX11_redo_8 : decode cX11_redo 8 = .ok (.getfield 10, 3) := by decide +kernel
theorem dX11_redo_11 : decode cX11_redo 11 = .ok (.getfield 309, 3) := by decide +kernel
theorem dX11_redo_14 : decode cX11_redo 14 = .ok (.if_icmp .ne 6, 3) := by decide +kernel
theorem dX11_redo_17 : decode cX11_redo 17 = .ok (.bipush (-5), 2) := by decide +kernel
theorem dX11_redo_19 : decode cX11_redo 19 = .ok (.ireturn, 1) := by decide +kernel
theorem dX11_redo_20 : decode cX11_redo 20 = .ok (.aload_n 0, 1) := by decide +kernel
theorem dX11_redo_21 : decode cX11_redo 21 = .ok (.getfield 10, 3) := by decide +kernel
theorem dX11_redo_24 : decode cX11_redo 24 = .ok (.getfield 297, 3) := by decide +kernel
theorem dX11_redo_27 : decode cX11_redo 27 = .ok (.istore_n 1, 1) := by decide +kernel
theorem dX11_redo_28 : decode cX11_redo 28 = .ok (.aload_n 0, 1) := by decide +kernel
theorem dX11_redo_29 : decode cX11_redo 29 = .ok (.getfield 10, 3) := by decide +kernel
theorem dX11_redo_32 : decode cX11_redo 32 = .ok (.dup, 1) := by decide +kernel
theorem dX11_redo_33 : decode cX11_redo 33 = .ok (.getfield 297, 3) := by decide +kernel
theorem dX11_redo_36 : decode cX11_redo 36 = .ok (.iconst 1, 1) := by decide +kernel
theorem dX11_redo_37 : decode cX11_redo 37 = .ok (.iadd, 1) := by decide +kernel
theorem dX11_redo_38 : decode cX11_redo 38 = .ok (.putfield 297, 3) := by decide +kernel
theorem dX11_redo_41 : decode cX11_redo 41 = .ok (.aload_n 0, 1) := by decide +kernel
theorem dX11_redo_42 : decode cX11_redo 42 = .ok (.aload_n 0, 1) := by decide +kernel
theorem dX11_redo_43 : decode cX11_redo 43 = .ok (.getfield 10, 3) := by decide +kernel
theorem dX11_redo_46 : decode cX11_redo 46 = .ok (.getfield 300, 3) := by decide +kernel
theorem dX11_redo_49 : decode cX11_redo 49 = .ok (.iload_n 1, 1) := by decide +kernel
theorem dX11_redo_50 : decode cX11_redo 50 = .ok (.iaload, 1) := by decide +kernel
theorem dX11_redo_51 : decode cX11_redo 51 = .ok (.aload_n 0, 1) := by decide +kernel
theorem dX11_redo_52 : decode cX11_redo 52 = .ok (.getfield 10, 3) := by decide +kernel
theorem dX11_redo_55 : decode cX11_redo 55 = .ok (.getfield 303, 3) := by decide +kernel
theorem dX11_redo_58 : decode cX11_redo 58 = .ok (.iload_n 1, 1) := by decide +kernel
theorem dX11_redo_59 : decode cX11_redo 59 = .ok (.iaload, 1) := by decide +kernel
theorem dX11_redo_60 : decode cX11_redo 60 = .ok (.aload_n 0, 1) := by decide +kernel
theorem dX11_redo_61 : decode cX11_redo 61 = .ok (.getfield 10, 3) := by decide +kernel
theorem dX11_redo_64 : decode cX11_redo 64 = .ok (.getfield 312, 3) := by decide +kernel
theorem dX11_redo_67 : decode cX11_redo 67 = .ok (.iload_n 1, 1) := by decide +kernel
theorem dX11_redo_68 : decode cX11_redo 68 = .ok (.iaload, 1) := by decide +kernel
theorem dX11_redo_69 : decode cX11_redo 69 = .ok (.invokevirtual 148, 3) := by decide +kernel
theorem dX11_redo_72 : decode cX11_redo 72 = .ok (.aload_n 0, 1) := by decide +kernel
theorem dX11_redo_73 : decode cX11_redo 73 = .ok (.getfield 10, 3) := by decide +kernel
theorem dX11_redo_76 : decode cX11_redo 76 = .ok (.getfield 309, 3) := by decide +kernel
theorem dX11_redo_79 : decode cX11_redo 79 = .ok (.aload_n 0, 1) := by decide +kernel
theorem dX11_redo_80 : decode cX11_redo 80 = .ok (.getfield 10, 3) := by decide +kernel
theorem dX11_redo_83 : decode cX11_redo 83 = .ok (.getfield 297, 3) := by decide +kernel
theorem dX11_redo_86 : decode cX11_redo 86 = .ok (.isub, 1) := by decide +kernel
theorem dX11_redo_87 : decode cX11_redo 87 = .ok (.ireturn, 1) := by decide +kernel
theorem dX11_body_0 : decode cX11_body 0 = .ok (.iload_n 1, 1) := by decide +kernel
theorem dX11_body_1 : decode cX11_body 1 = .ok (.invokestatic 315, 3) := by decide +kernel
theorem dX11_body_4 : decode cX11_body 4 = .ok (.ifCond .eq 14, 3) := by decide +kernel
theorem dX11_body_7 : decode cX11_body 7 = .ok (.aload_n 0, 1) := by decide +kernel
theorem dX11_body_8 : decode cX11_body 8 = .ok (.getfield 26, 3) := by decide +kernel
theorem dX11_body_11 : decode cX11_body 11 = .ok (.iload_n 1, 1) := by decide +kernel
theorem dX11_body_12 : decode cX11_body 12 = .ok (.invokevirtual 318, 3) := by decide +kernel
theorem dX11_body_15 : decode cX11_body 15 = .ok (.goto 4, 3) := by decide +kernel
theorem dX11_body_18 : decode cX11_body 18 = .ok (.iconst (-1), 1) := by decide +kernel
theorem dX11_body_19 : decode cX11_body 19 = .ok (.ireturn, 1) := by decide +kernel
theorem dX11_act_0 : decode cX11_act 0 = .ok (.aload_n 0, 1) := by decide +kernel
theorem dX11_act_1 : decode cX11_act 1 = .ok (.getfield 26, 3) := by decide +kernel
theorem dX11_act_4 : decode cX11_act 4 = .ok (.iload_n 1, 1) := by decide +kernel
theorem dX11_act_5 : decode cX11_act 5 = .ok (.iload_n 2, 1) := by decide +kernel
theorem dX11_act_6 : decode cX11_act 6 = .ok (.iload_n 3, 1) := by decide +kernel
theorem dX11_act_7 : decode cX11_act 7 = .ok (.invokevirtual 321, 3) := by decide +kernel
theorem dX11_act_10 : decode cX11_act 10 = .ok (.ireturn, 1) := by decide +kernel
theorem dX11_trace_0 : decode cX11_trace 0 = .ok (.iload_n 1, 1) := by decide +kernel
theorem dX11_trace_1 : decode cX11_trace 1 = .ok (.ifCond .lt 26, 3) := by decide +kernel
theorem dX11_trace_4 : decode cX11_trace 4 = .ok (.iload_n 1, 1) := by decide +kernel
theorem dX11_trace_5 : decode cX11_trace 5 = .ok (.aload_n 0, 1) := by decide +kernel
theorem dX11_trace_6 : decode cX11_trace 6 = .ok (.getfield 26, 3) := by decide +kernel
theorem dX11_trace_9 : decode cX11_trace 9 = .ok (.invokevirtual 324, 3) := by decide +kernel
theorem dX11_trace_12 : decode cX11_trace 12 = .ok (.if_icmp .ge 15, 3) := by decide +kernel
theorem dX11_trace_15 : decode cX11_trace 15 = .ok (.aload_n 0, 1) := by decide +kernel
theorem dX11_trace_16 : decode cX11_trace 16 = .ok (.getfield 26, 3) := by decide +kernel
theorem dX11_trace_19 : decode cX11_trace 19 = .ok (.getfield 327, 3) := by decide +kernel
theorem dX11_trace_22 : decode cX11_trace 22 = .ok (.iload_n 1, 1) := by decide +kernel
theorem dX11_trace_23 : decode cX11_trace 23 = .ok (.iaload, 1) := by decide +kernel
theorem dX11_trace_24 : decode cX11_trace 24 = .ok (.goto 4, 3) := by decide +kernel
theorem dX11_trace_27 : decode cX11_trace 27 = .ok (.iconst (-1), 1) := by decide +kernel
theorem dX11_trace_28 : decode cX11_trace 28 = .ok (.ireturn, 1) := by decide +kernel
theorem dX11_keep_0 : decode cX11_keep 0 = .ok (.iload_n 1, 1) := by decide +kernel
theorem dX11_keep_1 : decode cX11_keep 1 = .ok (.invokestatic 115, 3) := by decide +kernel
theorem dX11_keep_4 : decode cX11_keep 4 = .ok (.ifCond .eq 19, 3) := by decide +kernel
theorem dX11_keep_7 : decode cX11_keep 7 = .ok (.iload_n 2, 1) := by decide +kernel
theorem dX11_keep_8 : decode cX11_keep 8 = .ok (.iconst (-1), 1) := by decide +kernel
theorem dX11_keep_9 : decode cX11_keep 9 = .ok (.if_icmp .eq 16, 3) := by decide +kernel
theorem dX11_keep_12 : decode cX11_keep 12 = .ok (.aload_n 0, 1) := by decide +kernel
theorem dX11_keep_13 : decode cX11_keep 13 = .ok (.getfield 26, 3) := by decide +kernel
theorem dX11_keep_16 : decode cX11_keep 16 = .ok (.iload_n 2, 1) := by decide +kernel
theorem dX11_keep_17 : decode cX11_keep 17 = .ok (.invokevirtual 330, 3) := by decide +kernel
theorem dX11_keep_20 : decode cX11_keep 20 = .ok (.ifCond .ne 5, 3) := by decide +kernel
theorem dX11_keep_23 : decode cX11_keep 23 = .ok (.iconst (-1), 1) := by decide +kernel
theorem dX11_keep_24 : decode cX11_keep 24 = .ok (.ireturn, 1) := by decide +kernel
theorem dX11_keep_25 : decode cX11_keep 25 = .ok (.aload_n 0, 1) := by decide +kernel
theorem dX11_keep_26 : decode cX11_keep 26 = .ok (.getfield 19, 3) := by decide +kernel
theorem dX11_keep_29 : decode cX11_keep 29 = .ok (.iload_n 1, 1) := by decide +kernel
theorem dX11_keep_30 : decode cX11_keep 30 = .ok (.iload_n 2, 1) := by decide +kernel
theorem dX11_keep_31 : decode cX11_keep 31 = .ok (.iconst (-1), 1) := by decide +kernel
theorem dX11_keep_32 : decode cX11_keep 32 = .ok (.if_icmp .ne 7, 3) := by decide +kernel
theorem dX11_keep_35 : decode cX11_keep 35 = .ok (.iconst (-1), 1) := by decide +kernel
theorem dX11_keep_36 : decode cX11_keep 36 = .ok (.goto 4, 3) := by decide +kernel
theorem dX11_keep_39 : decode cX11_keep 39 = .ok (.iconst 5, 1) := by decide +kernel
theorem dX11_keep_40 : decode cX11_keep 40 = .ok (.iload_n 2, 1) := by decide +kernel
theorem dX11_keep_41 : decode cX11_keep 41 = .ok (.invokevirtual 331, 3) := by decide +kernel
theorem dX11_keep_44 : decode cX11_keep 44 = .ok (.iconst 1, 1) := by decide +kernel
theorem dX11_keep_45 : decode cX11_keep 45 = .ok (.ireturn, 1) := by decide +kernel
theorem dX11_row_0 : decode cX11_row 0 = .ok (.iload_n 1, 1) := by decide +kernel
theorem dX11_row_1 : decode cX11_row 1 = .ok (.invokestatic 115, 3) := by decide +kernel
theorem dX11_row_4 : decode cX11_row 4 = .ok (.ifCond .eq 18, 3) := by decide +kernel
theorem dX11_row_7 : decode cX11_row 7 = .ok (.iload_n 2, 1) := by decide +kernel
theorem dX11_row_8 : decode cX11_row 8 = .ok (.ifCond .lt 14, 3) := by decide +kernel
theorem dX11_row_11 : decode cX11_row 11 = .ok (.iload_n 2, 1) := by decide +kernel
theorem dX11_row_12 : decode cX11_row 12 = .ok (.iconst 4, 1) := by decide +kernel
theorem dX11_row_13 : decode cX11_row 13 = .ok (.if_icmp .gt 9, 3) := by decide +kernel
theorem dX11_row_16 : decode cX11_row 16 = .ok (.iload_n 3, 1) := by decide +kernel
theorem dX11_row_17 : decode cX11_row 17 = .ok (.bipush 60, 2) := by decide +kernel
theorem dX11_row_19 : decode cX11_row 19 = .ok (.if_icmp .le 5, 3) := by decide +kernel
theorem dX11_row_22 : decode cX11_row 22 = .ok (.iconst (-1), 1) := by decide +kernel
theorem dX11_row_23 : decode cX11_row 23 = .ok (.ireturn, 1) := by decide +kernel
theorem dX11_row_24 : decode cX11_row 24 = .ok (.iload_n 3, 1) := by decide +kernel
theorem dX11_row_25 : decode cX11_row 25 = .ok (.ifCond .ge 6, 3) := by decide +kernel
theorem dX11_row_28 : decode cX11_row 28 = .ok (.bipush (-14), 2) := by decide +kernel
theorem dX11_row_30 : decode cX11_row 30 = .ok (.ireturn, 1) := by decide +kernel
theorem dX11_row_31 : decode cX11_row 31 = .ok (.aload_n 0, 1) := by decide +kernel
theorem dX11_row_32 : decode cX11_row 32 = .ok (.getfield 19, 3) := by decide +kernel
theorem dX11_row_35 : decode cX11_row 35 = .ok (.iload_n 1, 1) := by decide +kernel
theorem dX11_row_36 : decode cX11_row 36 = .ok (.iload_n 2, 1) := by decide +kernel
theorem dX11_row_37 : decode cX11_row 37 = .ok (.iload_n 3, 1) := by decide +kernel
theorem dX11_row_38 : decode cX11_row 38 = .ok (.invokevirtual 331, 3) := by decide +kernel
theorem dX11_row_41 : decode cX11_row 41 = .ok (.iconst 1, 1) := by decide +kernel
theorem dX11_row_42 : decode cX11_row 42 = .ok (.ireturn, 1) := by decide +kernel
theorem dX11_put_0 : decode cX11_put 0 = .ok (.aload_n 0, 1) := by decide +kernel
theorem dX11_put_1 : decode cX11_put 1 = .ok (.getfield 19, 3) := by decide +kernel
theorem dX11_put_4 : decode cX11_put 4 = .ok (.iload_n 1, 1) := by decide +kernel
theorem dX11_put_5 : decode cX11_put 5 = .ok (.iload_n 2, 1) := by decide +kernel
theorem dX11_put_6 : decode cX11_put 6 = .ok (.invokevirtual 334, 3) := by decide +kernel
theorem dX11_put_9 : decode cX11_put 9 = .ok (.istore 5, 2) := by decide +kernel
theorem dX11_put_11 : decode cX11_put 11 = .ok (.iload 5, 2) := by decide +kernel
theorem dX11_put_13 : decode cX11_put 13 = .ok (.ifCond .ge 6, 3) := by decide +kernel
theorem dX11_put_16 : decode cX11_put 16 = .ok (.iload 5, 2) := by decide +kernel
theorem dX11_put_18 : decode cX11_put 18 = .ok (.ireturn, 1) := by decide +kernel
theorem dX11_put_19 : decode cX11_put 19 = .ok (.aload_n 0, 1) := by decide +kernel
theorem dX11_put_20 : decode cX11_put 20 = .ok (.getfield 19, 3) := by decide +kernel
theorem dX11_put_23 : decode cX11_put 23 = .ok (.iload_n 1, 1) := by decide +kernel
theorem dX11_put_24 : decode cX11_put 24 = .ok (.iload_n 2, 1) := by decide +kernel
theorem dX11_put_25 : decode cX11_put 25 = .ok (.lload_n 3, 1) := by decide +kernel
theorem dX11_put_26 : decode cX11_put 26 = .ok (.invokevirtual 337, 3) := by decide +kernel
theorem dX11_put_29 : decode cX11_put 29 = .ok (.iconst 1, 1) := by decide +kernel
theorem dX11_put_30 : decode cX11_put 30 = .ok (.ireturn, 1) := by decide +kernel
theorem dX11_element_0 : decode cX11_element 0 = .ok (.aload_n 0, 1) := by decide +kernel
theorem dX11_element_1 : decode cX11_element 1 = .ok (.getfield 19, 3) := by decide +kernel
theorem dX11_element_4 : decode cX11_element 4 = .ok (.iload_n 1, 1) := by decide +kernel
theorem dX11_element_5 : decode cX11_element 5 = .ok (.iload_n 2, 1) := by decide +kernel
theorem dX11_element_6 : decode cX11_element 6 = .ok (.invokevirtual 334, 3) := by decide +kernel
theorem dX11_element_9 : decode cX11_element 9 = .ok (.ifCond .ge 9, 3) := by decide +kernel
theorem dX11_element_12 : decode cX11_element 12 = .ok (.ldc2_w 343, 3) := by decide +kernel
theorem dX11_element_15 : decode cX11_element 15 = .ok (.goto 12, 3) := by decide +kernel
theorem dX11_element_18 : decode cX11_element 18 = .ok (.aload_n 0, 1) := by decide +kernel
theorem dX11_element_19 : decode cX11_element 19 = .ok (.getfield 19, 3) := by decide +kernel
theorem dX11_element_22 : decode cX11_element 22 = .ok (.iload_n 1, 1) := by decide +kernel
theorem dX11_element_23 : decode cX11_element 23 = .ok (.iload_n 2, 1) := by decide +kernel
theorem dX11_element_24 : decode cX11_element 24 = .ok (.invokevirtual 345, 3) := by decide +kernel
theorem dX11_element_27 : decode cX11_element 27 = .ok (.lreturn, 1) := by decide +kernel
theorem dX11_shift_0 : decode cX11_shift 0 = .ok (.iload_n 1, 1) := by decide +kernel
theorem dX11_shift_1 : decode cX11_shift 1 = .ok (.invokestatic 115, 3) := by decide +kernel
theorem dX11_shift_4 : decode cX11_shift 4 = .ok (.ifCond .eq 10, 3) := by decide +kernel
theorem dX11_shift_7 : decode cX11_shift 7 = .ok (.iload_n 3, 1) := by decide +kernel
theorem dX11_shift_8 : decode cX11_shift 8 = .ok (.invokestatic 115, 3) := by decide +kernel
theorem dX11_shift_11 : decode cX11_shift 11 = .ok (.ifCond .ne 5, 3) := by decide +kernel
theorem dX11_shift_14 : decode cX11_shift 14 = .ok (.iconst (-1), 1) := by decide +kernel
theorem dX11_shift_15 : decode cX11_shift 15 = .ok (.ireturn, 1) := by decide +kernel
theorem dX11_shift_16 : decode cX11_shift 16 = .ok (.aload_n 0, 1) := by decide +kernel
theorem dX11_shift_17 : decode cX11_shift 17 = .ok (.getfield 19, 3) := by decide +kernel
theorem dX11_shift_20 : decode cX11_shift 20 = .ok (.iload_n 1, 1) := by decide +kernel
theorem dX11_shift_21 : decode cX11_shift 21 = .ok (.iload_n 2, 1) := by decide +kernel
theorem dX11_shift_22 : decode cX11_shift 22 = .ok (.iload_n 3, 1) := by decide +kernel
theorem dX11_shift_23 : decode cX11_shift 23 = .ok (.iload 4, 2) := by decide +kernel
theorem dX11_shift_25 : decode cX11_shift 25 = .ok (.iload 5, 2) := by decide +kernel
theorem dX11_shift_27 : decode cX11_shift 27 = .ok (.invokevirtual 349, 3) := by decide +kernel
theorem dX11_shift_30 : decode cX11_shift 30 = .ok (.ireturn, 1) := by decide +kernel
theorem dX11_taken_0 : decode cX11_taken 0 = .ok (.iload_n 1, 1) := by decide +kernel
theorem dX11_taken_1 : decode cX11_taken 1 = .ok (.invokestatic 115, 3) := by decide +kernel
theorem dX11_taken_4 : decode cX11_taken 4 = .ok (.ifCond .eq 10, 3) := by decide +kernel
theorem dX11_taken_7 : decode cX11_taken 7 = .ok (.iload_n 2, 1) := by decide +kernel
theorem dX11_taken_8 : decode cX11_taken 8 = .ok (.invokestatic 315, 3) := by decide +kernel
theorem dX11_taken_11 : decode cX11_taken 11 = .ok (.ifCond .ne 5, 3) := by decide +kernel
theorem dX11_taken_14 : decode cX11_taken 14 = .ok (.iconst (-1), 1) := by decide +kernel
theorem dX11_taken_15 : decode cX11_taken 15 = .ok (.ireturn, 1) := by decide +kernel
theorem dX11_taken_16 : decode cX11_taken 16 = .ok (.aload_n 0, 1) := by decide +kernel
theorem dX11_taken_17 : decode cX11_taken 17 = .ok (.getfield 19, 3) := by decide +kernel
theorem dX11_taken_20 : decode cX11_taken 20 = .ok (.iload_n 1, 1) := by decide +kernel
theorem dX11_taken_21 : decode cX11_taken 21 = .ok (.invokevirtual 118, 3) := by decide +kernel
theorem dX11_taken_24 : decode cX11_taken 24 = .ok (.ifCond .eq 6, 3) := by decide +kernel
theorem dX11_taken_27 : decode cX11_taken 27 = .ok (.bipush (-11), 2) := by decide +kernel
theorem dX11_taken_29 : decode cX11_taken 29 = .ok (.ireturn, 1) := by decide +kernel
theorem dX11_taken_30 : decode cX11_taken 30 = .ok (.aload_n 0, 1) := by decide +kernel
theorem dX11_taken_31 : decode cX11_taken 31 = .ok (.getfield 26, 3) := by decide +kernel
theorem dX11_taken_34 : decode cX11_taken 34 = .ok (.aload_n 0, 1) := by decide +kernel
theorem dX11_taken_35 : decode cX11_taken 35 = .ok (.getfield 19, 3) := by decide +kernel
theorem dX11_taken_38 : decode cX11_taken 38 = .ok (.iload_n 1, 1) := by decide +kernel
theorem dX11_taken_39 : decode cX11_taken 39 = .ok (.invokevirtual 353, 3) := by decide +kernel
theorem dX11_taken_42 : decode cX11_taken 42 = .ok (.invokevirtual 356, 3) := by decide +kernel
theorem dX11_taken_45 : decode cX11_taken 45 = .ok (.istore_n 3, 1) := by decide +kernel
theorem dX11_taken_46 : decode cX11_taken 46 = .ok (.iload_n 3, 1) := by decide +kernel
theorem dX11_taken_47 : decode cX11_taken 47 = .ok (.iload_n 2, 1) := by decide +kernel
theorem dX11_taken_48 : decode cX11_taken 48 = .ok (.invokestatic 359, 3) := by decide +kernel
theorem dX11_taken_51 : decode cX11_taken 51 = .ok (.ifCond .eq 7, 3) := by decide +kernel
theorem dX11_taken_54 : decode cX11_taken 54 = .ok (.iload_n 3, 1) := by decide +kernel
theorem dX11_taken_55 : decode cX11_taken 55 = .ok (.goto 5, 3) := by decide +kernel
theorem dX11_taken_58 : decode cX11_taken 58 = .ok (.bipush (-12), 2) := by decide +kernel
theorem dX11_taken_60 : decode cX11_taken 60 = .ok (.ireturn, 1) := by decide +kernel
theorem dX11_count_0 : decode cX11_count 0 = .ok (.iload_n 1, 1) := by decide +kernel
theorem dX11_count_1 : decode cX11_count 1 = .ok (.tableswitch 75 0 4 #[35, 43, 51, 59, 67], 35) := by decide +kernel
theorem dX11_count_36 : decode cX11_count 36 = .ok (.aload_n 0, 1) := by decide +kernel
theorem dX11_count_37 : decode cX11_count 37 = .ok (.getfield 52, 3) := by decide +kernel
theorem dX11_count_40 : decode cX11_count 40 = .ok (.getfield 108, 3) := by decide +kernel
theorem dX11_count_43 : decode cX11_count 43 = .ok (.ireturn, 1) := by decide +kernel
theorem dX11_count_44 : decode cX11_count 44 = .ok (.aload_n 0, 1) := by decide +kernel
theorem dX11_count_45 : decode cX11_count 45 = .ok (.getfield 56, 3) := by decide +kernel
theorem dX11_count_48 : decode cX11_count 48 = .ok (.getfield 362, 3) := by decide +kernel
theorem dX11_count_51 : decode cX11_count 51 = .ok (.ireturn, 1) := by decide +kernel
theorem dX11_count_52 : decode cX11_count 52 = .ok (.aload_n 0, 1) := by decide +kernel
theorem dX11_count_53 : decode cX11_count 53 = .ok (.getfield 10, 3) := by decide +kernel
theorem dX11_count_56 : decode cX11_count 56 = .ok (.getfield 297, 3) := by decide +kernel
theorem dX11_count_59 : decode cX11_count 59 = .ok (.ireturn, 1) := by decide +kernel
theorem dX11_count_60 : decode cX11_count 60 = .ok (.aload_n 0, 1) := by decide +kernel
theorem dX11_count_61 : decode cX11_count 61 = .ok (.getfield 26, 3) := by decide +kernel
theorem dX11_count_64 : decode cX11_count 64 = .ok (.getfield 365, 3) := by decide +kernel
theorem dX11_count_67 : decode cX11_count 67 = .ok (.ireturn, 1) := by decide +kernel
theorem dX11_count_68 : decode cX11_count 68 = .ok (.aload_n 0, 1) := by decide +kernel
theorem dX11_count_69 : decode cX11_count 69 = .ok (.getfield 26, 3) := by decide +kernel
theorem dX11_count_72 : decode cX11_count 72 = .ok (.getfield 368, 3) := by decide +kernel
theorem dX11_count_75 : decode cX11_count 75 = .ok (.ireturn, 1) := by decide +kernel
theorem dX11_count_76 : decode cX11_count 76 = .ok (.iconst (-1), 1) := by decide +kernel
theorem dX11_count_77 : decode cX11_count 77 = .ok (.ireturn, 1) := by decide +kernel
theorem dX11_isCell_0 : decode cX11_isCell 0 = .ok (.iload_n 0, 1) := by decide +kernel
theorem dX11_isCell_1 : decode cX11_isCell 1 = .ok (.ifCond .lt 14, 3) := by decide +kernel
theorem dX11_isCell_4 : decode cX11_isCell 4 = .ok (.iload_n 0, 1) := by decide +kernel
theorem dX11_isCell_5 : decode cX11_isCell 5 = .ok (.sipush 256, 3) := by decide +kernel
theorem dX11_isCell_8 : decode cX11_isCell 8 = .ok (.if_icmp .ge 7, 3) := by decide +kernel
theorem dX11_isCell_11 : decode cX11_isCell 11 = .ok (.iconst 1, 1) := by decide +kernel
theorem dX11_isCell_12 : decode cX11_isCell 12 = .ok (.goto 4, 3) := by decide +kernel
theorem dX11_isCell_15 : decode cX11_isCell 15 = .ok (.iconst 0, 1) := by decide +kernel
theorem dX11_isCell_16 : decode cX11_isCell 16 = .ok (.ireturn, 1) := by decide +kernel
theorem dX11_join_0 : decode cX11_join 0 = .ok (.aload_n 0, 1) := by decide +kernel
theorem dX11_join_1 : decode cX11_join 1 = .ok (.getfield 52, 3) := by decide +kernel
theorem dX11_join_4 : decode cX11_join 4 = .ok (.iload_n 1, 1) := by decide +kernel
theorem dX11_join_5 : decode cX11_join 5 = .ok (.iload_n 2, 1) := by decide +kernel
theorem dX11_join_6 : decode cX11_join 6 = .ok (.invokevirtual 371, 3) := by decide +kernel
theorem dX11_join_9 : decode cX11_join 9 = .ok (.istore 4, 2) := by decide +kernel
theorem dX11_join_11 : decode cX11_join 11 = .ok (.aload_n 0, 1) := by decide +kernel
theorem dX11_join_12 : decode cX11_join 12 = .ok (.getfield 64, 3) := by decide +kernel
theorem dX11_join_15 : decode cX11_join 15 = .ok (.getfield 241, 3) := by decide +kernel
theorem dX11_join_18 : decode cX11_join 18 = .ok (.iload 4, 2) := by decide +kernel
theorem dX11_join_20 : decode cX11_join 20 = .ok (.iload_n 3, 1) := by decide +kernel
theorem dX11_join_21 : decode cX11_join 21 = .ok (.iastore, 1) := by decide +kernel
theorem dX11_join_22 : decode cX11_join 22 = .ok (.iload 4, 2) := by decide +kernel
theorem dX11_join_24 : decode cX11_join 24 = .ok (.ireturn, 1) := by decide +kernel
theorem dX11_comes_0 : decode cX11_comes 0 = .ok (.lload_n 2, 1) := by decide +kernel
theorem dX11_comes_1 : decode cX11_comes 1 = .ok (.ldc2_w 373, 3) := by decide +kernel
theorem dX11_comes_4 : decode cX11_comes 4 = .ok (.ladd, 1) := by decide +kernel
theorem dX11_comes_5 : decode cX11_comes 5 = .ok (.aload_n 0, 1) := by decide +kernel
theorem dX11_comes_6 : decode cX11_comes 6 = .ok (.getfield 19, 3) := by decide +kernel
theorem dX11_comes_9 : decode cX11_comes 9 = .ok (.iload_n 1, 1) := by decide +kernel
theorem dX11_comes_10 : decode cX11_comes 10 = .ok (.invokevirtual 375, 3) := by decide +kernel
theorem dX11_comes_13 : decode cX11_comes 13 = .ok (.i2l, 1) := by decide +kernel
theorem dX11_comes_14 : decode cX11_comes 14 = .ok (.lcmp, 1) := by decide +kernel
theorem dX11_comes_15 : decode cX11_comes 15 = .ok (.ifCond .ge 15, 3) := by decide +kernel
theorem dX11_comes_18 : decode cX11_comes 18 = .ok (.aload_n 0, 1) := by decide +kernel
theorem dX11_comes_19 : decode cX11_comes 19 = .ok (.getfield 52, 3) := by decide +kernel
theorem dX11_comes_22 : decode cX11_comes 22 = .ok (.getfield 108, 3) := by decide +kernel
theorem dX11_comes_25 : decode cX11_comes 25 = .ok (.bipush 8, 2) := by decide +kernel
theorem dX11_comes_27 : decode cX11_comes 27 = .ok (.if_icmp .lt 5, 3) := by decide +kernel
theorem dX11_comes_30 : decode cX11_comes 30 = .ok (.iconst 0, 1) := by decide +kernel
theorem dX11_comes_31 : decode cX11_comes 31 = .ok (.ireturn, 1) := by decide +kernel
theorem dX11_comes_32 : decode cX11_comes 32 = .ok (.lload_n 2, 1) := by decide +kernel
theorem dX11_comes_33 : decode cX11_comes 33 = .ok (.l2i, 1) := by decide +kernel
theorem dX11_comes_34 : decode cX11_comes 34 = .ok (.istore 4, 2) := by decide +kernel
theorem dX11_comes_36 : decode cX11_comes 36 = .ok (.aload_n 0, 1) := by decide +kernel
theorem dX11_comes_37 : decode cX11_comes 37 = .ok (.getfield 19, 3) := by decide +kernel
theorem dX11_comes_40 : decode cX11_comes 40 = .ok (.iload_n 1, 1) := by decide +kernel
theorem dX11_comes_41 : decode cX11_comes 41 = .ok (.iload 4, 2) := by decide +kernel
theorem dX11_comes_43 : decode cX11_comes 43 = .ok (.invokevirtual 345, 3) := by decide +kernel
theorem dX11_comes_46 : decode cX11_comes 46 = .ok (.l2i, 1) := by decide +kernel
theorem dX11_comes_47 : decode cX11_comes 47 = .ok (.istore 5, 2) := by decide +kernel
theorem dX11_comes_49 : decode cX11_comes 49 = .ok (.aload_n 0, 1) := by decide +kernel
theorem dX11_comes_50 : decode cX11_comes 50 = .ok (.getfield 19, 3) := by decide +kernel
theorem dX11_comes_53 : decode cX11_comes 53 = .ok (.iload_n 1, 1) := by decide +kernel
theorem dX11_comes_54 : decode cX11_comes 54 = .ok (.iload 4, 2) := by decide +kernel
theorem dX11_comes_56 : decode cX11_comes 56 = .ok (.iconst 1, 1) := by decide +kernel
theorem dX11_comes_57 : decode cX11_comes 57 = .ok (.iadd, 1) := by decide +kernel
theorem dX11_comes_58 : decode cX11_comes 58 = .ok (.invokevirtual 345, 3) := by decide +kernel
theorem dX11_comes_61 : decode cX11_comes 61 = .ok (.l2i, 1) := by decide +kernel
theorem dX11_comes_62 : decode cX11_comes 62 = .ok (.istore 6, 2) := by decide +kernel
theorem dX11_comes_64 : decode cX11_comes 64 = .ok (.aload_n 0, 1) := by decide +kernel
theorem dX11_comes_65 : decode cX11_comes 65 = .ok (.getfield 19, 3) := by decide +kernel
theorem dX11_comes_68 : decode cX11_comes 68 = .ok (.iload_n 1, 1) := by decide +kernel
theorem dX11_comes_69 : decode cX11_comes 69 = .ok (.iload 4, 2) := by decide +kernel
theorem dX11_comes_71 : decode cX11_comes 71 = .ok (.iconst 2, 1) := by decide +kernel
theorem dX11_comes_72 : decode cX11_comes 72 = .ok (.iadd, 1) := by decide +kernel
theorem dX11_comes_73 : decode cX11_comes 73 = .ok (.invokevirtual 345, 3) := by decide +kernel
theorem dX11_comes_76 : decode cX11_comes 76 = .ok (.l2i, 1) := by decide +kernel
theorem dX11_comes_77 : decode cX11_comes 77 = .ok (.istore 7, 2) := by decide +kernel
theorem dX11_comes_79 : decode cX11_comes 79 = .ok (.iload 5, 2) := by decide +kernel
theorem dX11_comes_81 : decode cX11_comes 81 = .ok (.invokestatic 104, 3) := by decide +kernel
theorem dX11_comes_84 : decode cX11_comes 84 = .ok (.ifCond .eq 33, 3) := by decide +kernel
theorem dX11_comes_87 : decode cX11_comes 87 = .ok (.iload 6, 2) := by decide +kernel
theorem dX11_comes_89 : decode cX11_comes 89 = .ok (.ifCond .lt 28, 3) := by decide +kernel
theorem dX11_comes_92 : decode cX11_comes 92 = .ok (.iload 6, 2) := by decide +kernel
theorem dX11_comes_94 : decode cX11_comes 94 = .ok (.getstatic 137, 3) := by decide +kernel
theorem dX11_comes_97 : decode cX11_comes 97 = .ok (.iconst 1, 1) := by decide +kernel
theorem dX11_comes_98 : decode cX11_comes 98 = .ok (.iaload, 1) := by decide +kernel
theorem dX11_comes_99 : decode cX11_comes 99 = .ok (.if_icmp .gt 18, 3) := by decide +kernel
theorem dX11_comes_102 : decode cX11_comes 102 = .ok (.iload 7, 2) := by decide +kernel
theorem dX11_comes_104 : decode cX11_comes 104 = .ok (.ifCond .lt 13, 3) := by decide +kernel
theorem dX11_comes_107 : decode cX11_comes 107 = .ok (.iload 7, 2) := by decide +kernel
theorem dX11_comes_109 : decode cX11_comes 109 = .ok (.getstatic 137, 3) := by decide +kernel
theorem dX11_comes_112 : decode cX11_comes 112 = .ok (.iconst 2, 1) := by decide +kernel
theorem dX11_comes_113 : decode cX11_comes 113 = .ok (.iaload, 1) := by decide +kernel
theorem dX11_comes_114 : decode cX11_comes 114 = .ok (.if_icmp .le 5, 3) := by decide +kernel
theorem dX11_comes_117 : decode cX11_comes 117 = .ok (.iconst 0, 1) := by decide +kernel
theorem dX11_comes_118 : decode cX11_comes 118 = .ok (.ireturn, 1) := by decide +kernel
theorem dX11_comes_119 : decode cX11_comes 119 = .ok (.aload_n 0, 1) := by decide +kernel
theorem dX11_comes_120 : decode cX11_comes 120 = .ok (.iload 5, 2) := by decide +kernel
theorem dX11_comes_122 : decode cX11_comes 122 = .ok (.iload 6, 2) := by decide +kernel
theorem dX11_comes_124 : decode cX11_comes 124 = .ok (.iload 7, 2) := by decide +kernel
theorem dX11_comes_126 : decode cX11_comes 126 = .ok (.invokevirtual 111, 3) := by decide +kernel
theorem dX11_comes_129 : decode cX11_comes 129 = .ok (.pop, 1) := by decide +kernel
theorem dX11_comes_130 : decode cX11_comes 130 = .ok (.iconst 1, 1) := by decide +kernel
theorem dX11_comes_131 : decode cX11_comes 131 = .ok (.ireturn, 1) := by decide +kernel
theorem dX11_isTold_0 : decode cX11_isTold 0 = .ok (.iload_n 2, 1) := by decide +kernel
theorem dX11_isTold_1 : decode cX11_isTold 1 = .ok (.ifCond .lt 17, 3) := by decide +kernel
theorem dX11_isTold_4 : decode cX11_isTold 4 = .ok (.iload_n 2, 1) := by decide +kernel
theorem dX11_isTold_5 : decode cX11_isTold 5 = .ok (.iconst 3, 1) := by decide +kernel
theorem dX11_isTold_6 : decode cX11_isTold 6 = .ok (.if_icmp .gt 12, 3) := by decide +kernel
theorem dX11_isTold_9 : decode cX11_isTold 9 = .ok (.aload_n 0, 1) := by decide +kernel
theorem dX11_isTold_10 : decode cX11_isTold 10 = .ok (.getfield 52, 3) := by decide +kernel
theorem dX11_isTold_13 : decode cX11_isTold 13 = .ok (.iload_n 1, 1) := by decide +kernel
theorem dX11_isTold_14 : decode cX11_isTold 14 = .ok (.invokevirtual 160, 3) := by decide +kernel
theorem dX11_isTold_17 : decode cX11_isTold 17 = .ok (.ireturn, 1) := by decide +kernel
theorem dX11_isTold_18 : decode cX11_isTold 18 = .ok (.iload_n 2, 1) := by decide +kernel
theorem dX11_isTold_19 : decode cX11_isTold 19 = .ok (.iconst 4, 1) := by decide +kernel
theorem dX11_isTold_20 : decode cX11_isTold 20 = .ok (.if_icmp .lt 17, 3) := by decide +kernel
theorem dX11_isTold_23 : decode cX11_isTold 23 = .ok (.iload_n 2, 1) := by decide +kernel
theorem dX11_isTold_24 : decode cX11_isTold 24 = .ok (.bipush 7, 2) := by decide +kernel
theorem dX11_isTold_26 : decode cX11_isTold 26 = .ok (.if_icmp .gt 11, 3) := by decide +kernel
theorem dX11_isTold_29 : decode cX11_isTold 29 = .ok (.iload_n 1, 1) := by decide +kernel
theorem dX11_isTold_30 : decode cX11_isTold 30 = .ok (.ifCond .ne 7, 3) := by decide +kernel
theorem dX11_isTold_33 : decode cX11_isTold 33 = .ok (.iconst 1, 1) := by decide +kernel
theorem dX11_isTold_34 : decode cX11_isTold 34 = .ok (.goto 4, 3) := by decide +kernel
theorem dX11_isTold_37 : decode cX11_isTold 37 = .ok (.iconst 0, 1) := by decide +kernel
theorem dX11_isTold_38 : decode cX11_isTold 38 = .ok (.ireturn, 1) := by decide +kernel
theorem dX11_told_0 : decode cX11_told 0 = .ok (.iload_n 2, 1) := by decide +kernel
theorem dX11_told_1 : decode cX11_told 1 = .ok (.tableswitch 107 0 6 #[43, 53, 63, 73, 83, 91, 99], 43) := by decide +kernel
theorem dX11_told_44 : decode cX11_told 44 = .ok (.aload_n 0, 1) := by decide +kernel
theorem dX11_told_45 : decode cX11_told 45 = .ok (.getfield 52, 3) := by decide +kernel
theorem dX11_told_48 : decode cX11_told 48 = .ok (.getfield 221, 3) := by decide +kernel
theorem dX11_told_51 : decode cX11_told 51 = .ok (.iload_n 1, 1) := by decide +kernel
theorem dX11_told_52 : decode cX11_told 52 = .ok (.iaload, 1) := by decide +kernel
theorem dX11_told_53 : decode cX11_told 53 = .ok (.ireturn, 1) := by decide +kernel
theorem dX11_told_54 : decode cX11_told 54 = .ok (.aload_n 0, 1) := by decide +kernel
theorem dX11_told_55 : decode cX11_told 55 = .ok (.getfield 52, 3) := by decide +kernel
theorem dX11_told_58 : decode cX11_told 58 = .ok (.getfield 273, 3) := by decide +kernel
theorem dX11_told_61 : decode cX11_told 61 = .ok (.iload_n 1, 1) := by decide +kernel
theorem dX11_told_62 : decode cX11_told 62 = .ok (.iaload, 1) := by decide +kernel
theorem dX11_told_63 : decode cX11_told 63 = .ok (.ireturn, 1) := by decide +kernel
theorem dX11_told_64 : decode cX11_told 64 = .ok (.aload_n 0, 1) := by decide +kernel
theorem dX11_told_65 : decode cX11_told 65 = .ok (.getfield 64, 3) := by decide +kernel
theorem dX11_told_68 : decode cX11_told 68 = .ok (.getfield 241, 3) := by decide +kernel
theorem dX11_told_71 : decode cX11_told 71 = .ok (.iload_n 1, 1) := by decide +kernel
theorem dX11_told_72 : decode cX11_told 72 = .ok (.iaload, 1) := by decide +kernel
theorem dX11_told_73 : decode cX11_told 73 = .ok (.ireturn, 1) := by decide +kernel
theorem dX11_told_74 : decode cX11_told 74 = .ok (.aload_n 0, 1) := by decide +kernel
theorem dX11_told_75 : decode cX11_told 75 = .ok (.getfield 52, 3) := by decide +kernel
theorem dX11_told_78 : decode cX11_told 78 = .ok (.getfield 244, 3) := by decide +kernel
theorem dX11_told_81 : decode cX11_told 81 = .ok (.iload_n 1, 1) := by decide +kernel
theorem dX11_told_82 : decode cX11_told 82 = .ok (.iaload, 1) := by decide +kernel
theorem dX11_told_83 : decode cX11_told 83 = .ok (.ireturn, 1) := by decide +kernel
theorem dX11_told_84 : decode cX11_told 84 = .ok (.aload_n 0, 1) := by decide +kernel
theorem dX11_told_85 : decode cX11_told 85 = .ok (.getfield 64, 3) := by decide +kernel
theorem dX11_told_88 : decode cX11_told 88 = .ok (.getfield 180, 3) := by decide +kernel
theorem dX11_told_91 : decode cX11_told 91 = .ok (.ireturn, 1) := by decide +kernel
theorem dX11_told_92 : decode cX11_told 92 = .ok (.aload_n 0, 1) := by decide +kernel
theorem dX11_told_93 : decode cX11_told 93 = .ok (.getfield 52, 3) := by decide +kernel
theorem dX11_told_96 : decode cX11_told 96 = .ok (.getfield 378, 3) := by decide +kernel
theorem dX11_told_99 : decode cX11_told 99 = .ok (.ireturn, 1) := by decide +kernel
theorem dX11_told_100 : decode cX11_told 100 = .ok (.aload_n 0, 1) := by decide +kernel
theorem dX11_told_101 : decode cX11_told 101 = .ok (.getfield 64, 3) := by decide +kernel
theorem dX11_told_104 : decode cX11_told 104 = .ok (.getfield 381, 3) := by decide +kernel
theorem dX11_told_107 : decode cX11_told 107 = .ok (.ireturn, 1) := by decide +kernel
theorem dX11_told_108 : decode cX11_told 108 = .ok (.aload_n 0, 1) := by decide +kernel
theorem dX11_told_109 : decode cX11_told 109 = .ok (.getfield 52, 3) := by decide +kernel
theorem dX11_told_112 : decode cX11_told 112 = .ok (.getfield 384, 3) := by decide +kernel
theorem dX11_told_115 : decode cX11_told 115 = .ok (.ireturn, 1) := by decide +kernel
theorem dX11_tell_0 : decode cX11_tell 0 = .ok (.iload_n 2, 1) := by decide +kernel
theorem dX11_tell_1 : decode cX11_tell 1 = .ok (.tableswitch 127 0 6 #[43, 55, 68, 81, 94, 105, 116], 43) := by decide +kernel
theorem dX11_tell_44 : decode cX11_tell 44 = .ok (.aload_n 0, 1) := by decide +kernel
theorem dX11_tell_45 : decode cX11_tell 45 = .ok (.getfield 52, 3) := by decide +kernel
theorem dX11_tell_48 : decode cX11_tell 48 = .ok (.iload_n 1, 1) := by decide +kernel
theorem dX11_tell_49 : decode cX11_tell 49 = .ok (.iload_n 3, 1) := by decide +kernel
theorem dX11_tell_50 : decode cX11_tell 50 = .ok (.invokevirtual 224, 3) := by decide +kernel
theorem dX11_tell_53 : decode cX11_tell 53 = .ok (.goto 83, 3) := by decide +kernel
theorem dX11_tell_56 : decode cX11_tell 56 = .ok (.aload_n 0, 1) := by decide +kernel
theorem dX11_tell_57 : decode cX11_tell 57 = .ok (.getfield 52, 3) := by decide +kernel
theorem dX11_tell_60 : decode cX11_tell 60 = .ok (.getfield 273, 3) := by decide +kernel
theorem dX11_tell_63 : decode cX11_tell 63 = .ok (.iload_n 1, 1) := by decide +kernel
theorem dX11_tell_64 : decode cX11_tell 64 = .ok (.iload_n 3, 1) := by decide +kernel
theorem dX11_tell_65 : decode cX11_tell 65 = .ok (.iastore, 1) := by decide +kernel
theorem dX11_tell_66 : decode cX11_tell 66 = .ok (.goto 70, 3) := by decide +kernel
theorem dX11_tell_69 : decode cX11_tell 69 = .ok (.aload_n 0, 1) := by decide +kernel
theorem dX11_tell_70 : decode cX11_tell 70 = .ok (.getfield 64, 3) := by decide +kernel
theorem dX11_tell_73 : decode cX11_tell 73 = .ok (.getfield 241, 3) := by decide +kernel
theorem dX11_tell_76 : decode cX11_tell 76 = .ok (.iload_n 1, 1) := by decide +kernel
theorem dX11_tell_77 : decode cX11_tell 77 = .ok (.iload_n 3, 1) := by decide +kernel
theorem dX11_tell_78 : decode cX11_tell 78 = .ok (.iastore, 1) := by decide +kernel
theorem dX11_tell_79 : decode cX11_tell 79 = .ok (.goto 57, 3) := by decide +kernel
theorem dX11_tell_82 : decode cX11_tell 82 = .ok (.aload_n 0, 1) := by decide +kernel
theorem dX11_tell_83 : decode cX11_tell 83 = .ok (.getfield 52, 3) := by decide +kernel
theorem dX11_tell_86 : decode cX11_tell 86 = .ok (.getfield 244, 3) := by decide +kernel
theorem dX11_tell_89 : decode cX11_tell 89 = .ok (.iload_n 1, 1) := by decide +kernel
theorem dX11_tell_90 : decode cX11_tell 90 = .ok (.iload_n 3, 1) := by decide +kernel
theorem dX11_tell_91 : decode cX11_tell 91 = .ok (.iastore, 1) := by decide +kernel
theorem dX11_tell_92 : decode cX11_tell 92 = .ok (.goto 44, 3) := by decide +kernel
theorem dX11_tell_95 : decode cX11_tell 95 = .ok (.aload_n 0, 1) := by decide +kernel
theorem dX11_tell_96 : decode cX11_tell 96 = .ok (.getfield 64, 3) := by decide +kernel
theorem dX11_tell_99 : decode cX11_tell 99 = .ok (.iload_n 3, 1) := by decide +kernel
theorem dX11_tell_100 : decode cX11_tell 100 = .ok (.putfield 180, 3) := by decide +kernel
theorem dX11_tell_103 : decode cX11_tell 103 = .ok (.goto 33, 3) := by decide +kernel
theorem dX11_tell_106 : decode cX11_tell 106 = .ok (.aload_n 0, 1) := by decide +kernel
theorem dX11_tell_107 : decode cX11_tell 107 = .ok (.getfield 52, 3) := by decide +kernel
theorem dX11_tell_110 : decode cX11_tell 110 = .ok (.iload_n 3, 1) := by decide +kernel
theorem dX11_tell_111 : decode cX11_tell 111 = .ok (.invokevirtual 387, 3) := by decide +kernel
theorem dX11_tell_114 : decode cX11_tell 114 = .ok (.goto 22, 3) := by decide +kernel
theorem dX11_tell_117 : decode cX11_tell 117 = .ok (.aload_n 0, 1) := by decide +kernel
theorem dX11_tell_118 : decode cX11_tell 118 = .ok (.getfield 64, 3) := by decide +kernel
theorem dX11_tell_121 : decode cX11_tell 121 = .ok (.iload_n 3, 1) := by decide +kernel
theorem dX11_tell_122 : decode cX11_tell 122 = .ok (.putfield 381, 3) := by decide +kernel
theorem dX11_tell_125 : decode cX11_tell 125 = .ok (.goto 11, 3) := by decide +kernel
theorem dX11_tell_128 : decode cX11_tell 128 = .ok (.aload_n 0, 1) := by decide +kernel
theorem dX11_tell_129 : decode cX11_tell 129 = .ok (.getfield 52, 3) := by decide +kernel
theorem dX11_tell_132 : decode cX11_tell 132 = .ok (.iload_n 3, 1) := by decide +kernel
theorem dX11_tell_133 : decode cX11_tell 133 = .ok (.putfield 384, 3) := by decide +kernel
theorem dX11_tell_136 : decode cX11_tell 136 = .ok (.return_, 1) := by decide +kernel
theorem dX11_openDay_0 : decode cX11_openDay 0 = .ok (.aload_n 0, 1) := by decide +kernel
theorem dX11_openDay_1 : decode cX11_openDay 1 = .ok (.getfield 19, 3) := by decide +kernel
theorem dX11_openDay_4 : decode cX11_openDay 4 = .ok (.iload_n 1, 1) := by decide +kernel
theorem dX11_openDay_5 : decode cX11_openDay 5 = .ok (.iload_n 1, 1) := by decide +kernel
theorem dX11_openDay_6 : decode cX11_openDay 6 = .ok (.invokevirtual 251, 3) := by decide +kernel
theorem dX11_openDay_9 : decode cX11_openDay 9 = .ok (.istore_n 2, 1) := by decide +kernel
theorem dX11_openDay_10 : decode cX11_openDay 10 = .ok (.iload_n 2, 1) := by decide +kernel
theorem dX11_openDay_11 : decode cX11_openDay 11 = .ok (.ifCond .ne 22, 3) := by decide +kernel
theorem dX11_openDay_14 : decode cX11_openDay 14 = .ok (.aload_n 0, 1) := by decide +kernel
theorem dX11_openDay_15 : decode cX11_openDay 15 = .ok (.getfield 60, 3) := by decide +kernel
theorem dX11_openDay_18 : decode cX11_openDay 18 = .ok (.aload_n 0, 1) := by decide +kernel
theorem dX11_openDay_19 : decode cX11_openDay 19 = .ok (.getfield 19, 3) := by decide +kernel
theorem dX11_openDay_22 : decode cX11_openDay 22 = .ok (.iload_n 1, 1) := by decide +kernel
theorem dX11_openDay_23 : decode cX11_openDay 23 = .ok (.aload_n 0, 1) := by decide +kernel
theorem dX11_openDay_24 : decode cX11_openDay 24 = .ok (.getfield 52, 3) := by decide +kernel
theorem dX11_openDay_27 : decode cX11_openDay 27 = .ok (.getfield 108, 3) := by decide +kernel
theorem dX11_openDay_30 : decode cX11_openDay 30 = .ok (.invokevirtual 254, 3) := by decide +kernel
theorem dX11_openDay_33 : decode cX11_openDay 33 = .ok (.iload_n 2, 1) := by decide +kernel
theorem dX11_openDay_34 : decode cX11_openDay 34 = .ok (.ireturn, 1) := by decide +kernel
theorem dX11_think_0 : decode cX11_think 0 = .ok (.aload_n 0, 1) := by decide +kernel
theorem dX11_think_1 : decode cX11_think 1 = .ok (.getfield 68, 3) := by decide +kernel
theorem dX11_think_4 : decode cX11_think 4 = .ok (.aload_n 0, 1) := by decide +kernel
theorem dX11_think_5 : decode cX11_think 5 = .ok (.getfield 64, 3) := by decide +kernel
theorem dX11_think_8 : decode cX11_think 8 = .ok (.invokevirtual 163, 3) := by decide +kernel
theorem dX11_think_11 : decode cX11_think 11 = .ok (.iconst 0, 1) := by decide +kernel
theorem dX11_think_12 : decode cX11_think 12 = .ok (.istore_n 2, 1) := by decide +kernel
theorem dX11_think_13 : decode cX11_think 13 = .ok (.iconst 0, 1) := by decide +kernel
theorem dX11_think_14 : decode cX11_think 14 = .ok (.istore_n 3, 1) := by decide +kernel
theorem dX11_think_15 : decode cX11_think 15 = .ok (.iload_n 3, 1) := by decide +kernel
theorem dX11_think_16 : decode cX11_think 16 = .ok (.iload_n 1, 1) := by decide +kernel
theorem dX11_think_17 : decode cX11_think 17 = .ok (.if_icmp .ge 71, 3) := by decide +kernel
theorem dX11_think_20 : decode cX11_think 20 = .ok (.iload_n 3, 1) := by decide +kernel
theorem dX11_think_21 : decode cX11_think 21 = .ok (.aload_n 0, 1) := by decide +kernel
theorem dX11_think_22 : decode cX11_think 22 = .ok (.getfield 60, 3) := by decide +kernel
theorem dX11_think_25 : decode cX11_think 25 = .ok (.getfield 183, 3) := by decide +kernel
theorem dX11_think_28 : decode cX11_think 28 = .ok (.if_icmp .ge 60, 3) := by decide +kernel
theorem dX11_think_31 : decode cX11_think 31 = .ok (.aload_n 0, 1) := by decide +kernel
theorem dX11_think_32 : decode cX11_think 32 = .ok (.getfield 68, 3) := by decide +kernel
theorem dX11_think_35 : decode cX11_think 35 = .ok (.getfield 287, 3) := by decide +kernel
theorem dX11_think_38 : decode cX11_think 38 = .ok (.istore 4, 2) := by decide +kernel
theorem dX11_think_40 : decode cX11_think 40 = .ok (.aload_n 0, 1) := by decide +kernel
theorem dX11_think_41 : decode cX11_think 41 = .ok (.getfield 68, 3) := by decide +kernel
theorem dX11_think_44 : decode cX11_think 44 = .ok (.aload_n 0, 1) := by decide +kernel
theorem dX11_think_45 : decode cX11_think 45 = .ok (.getfield 60, 3) := by decide +kernel
theorem dX11_think_48 : decode cX11_think 48 = .ok (.iload_n 3, 1) := by decide +kernel
theorem dX11_think_49 : decode cX11_think 49 = .ok (.invokevirtual 189, 3) := by decide +kernel
theorem dX11_think_52 : decode cX11_think 52 = .ok (.aload_n 0, 1) := by decide +kernel
theorem dX11_think_53 : decode cX11_think 53 = .ok (.getfield 60, 3) := by decide +kernel
theorem dX11_think_56 : decode cX11_think 56 = .ok (.iload_n 3, 1) := by decide +kernel
theorem dX11_think_57 : decode cX11_think 57 = .ok (.invokevirtual 192, 3) := by decide +kernel
theorem dX11_think_60 : decode cX11_think 60 = .ok (.invokevirtual 195, 3) := by decide +kernel
theorem dX11_think_63 : decode cX11_think 63 = .ok (.pop, 1) := by decide +kernel
theorem dX11_think_64 : decode cX11_think 64 = .ok (.aload_n 0, 1) := by decide +kernel
theorem dX11_think_65 : decode cX11_think 65 = .ok (.getfield 68, 3) := by decide +kernel
theorem dX11_think_68 : decode cX11_think 68 = .ok (.getfield 287, 3) := by decide +kernel
theorem dX11_think_71 : decode cX11_think 71 = .ok (.iload 4, 2) := by decide +kernel
theorem dX11_think_73 : decode cX11_think 73 = .ok (.if_icmp .le 9, 3) := by decide +kernel
theorem dX11_think_76 : decode cX11_think 76 = .ok (.iload_n 2, 1) := by decide +kernel
theorem dX11_think_77 : decode cX11_think 77 = .ok (.iconst 1, 1) := by decide +kernel
theorem dX11_think_78 : decode cX11_think 78 = .ok (.iload_n 3, 1) := by decide +kernel
theorem dX11_think_79 : decode cX11_think 79 = .ok (.ishl, 1) := by decide +kernel
theorem dX11_think_80 : decode cX11_think 80 = .ok (.ior, 1) := by decide +kernel
theorem dX11_think_81 : decode cX11_think 81 = .ok (.istore_n 2, 1) := by decide +kernel
theorem dX11_think_82 : decode cX11_think 82 = .ok (.iinc 3 1, 3) := by decide +kernel
theorem dX11_think_85 : decode cX11_think 85 = .ok (.goto (-70), 3) := by decide +kernel
theorem dX11_think_88 : decode cX11_think 88 = .ok (.iload_n 2, 1) := by decide +kernel
theorem dX11_think_89 : decode cX11_think 89 = .ok (.ireturn, 1) := by decide +kernel
theorem dX11_isSpared_0 : decode cX11_isSpared 0 = .ok (.aload_n 0, 1) := by decide +kernel
theorem dX11_isSpared_1 : decode cX11_isSpared 1 = .ok (.getfield 68, 3) := by decide +kernel
theorem dX11_isSpared_4 : decode cX11_isSpared 4 = .ok (.aload_n 0, 1) := by decide +kernel
theorem dX11_isSpared_5 : decode cX11_isSpared 5 = .ok (.getfield 64, 3) := by decide +kernel
theorem dX11_isSpared_8 : decode cX11_isSpared 8 = .ok (.invokevirtual 163, 3) := by decide +kernel
theorem dX11_isSpared_11 : decode cX11_isSpared 11 = .ok (.iconst 0, 1) := by decide +kernel
theorem dX11_isSpared_12 : decode cX11_isSpared 12 = .ok (.istore_n 2, 1) := by decide +kernel
theorem dX11_isSpared_13 : decode cX11_isSpared 13 = .ok (.iload_n 2, 1) := by decide +kernel
theorem dX11_isSpared_14 : decode cX11_isSpared 14 = .ok (.aload_n 0, 1) := by decide +kernel
theorem dX11_isSpared_15 : decode cX11_isSpared 15 = .ok (.getfield 60, 3) := by decide +kernel
theorem dX11_isSpared_18 : decode cX11_isSpared 18 = .ok (.getfield 183, 3) := by decide +kernel
theorem dX11_isSpared_21 : decode cX11_isSpared 21 = .ok (.if_icmp .ge 38, 3) := by decide +kernel
theorem dX11_isSpared_24 : decode cX11_isSpared 24 = .ok (.aload_n 0, 1) := by decide +kernel
theorem dX11_isSpared_25 : decode cX11_isSpared 25 = .ok (.getfield 68, 3) := by decide +kernel
theorem dX11_isSpared_28 : decode cX11_isSpared 28 = .ok (.aload_n 0, 1) := by decide +kernel
theorem dX11_isSpared_29 : decode cX11_isSpared 29 = .ok (.getfield 60, 3) := by decide +kernel
theorem dX11_isSpared_32 : decode cX11_isSpared 32 = .ok (.iload_n 2, 1) := by decide +kernel
theorem dX11_isSpared_33 : decode cX11_isSpared 33 = .ok (.invokevirtual 189, 3) := by decide +kernel
theorem dX11_isSpared_36 : decode cX11_isSpared 36 = .ok (.aload_n 0, 1) := by decide +kernel
theorem dX11_isSpared_37 : decode cX11_isSpared 37 = .ok (.getfield 60, 3) := by decide +kernel
theorem dX11_isSpared_40 : decode cX11_isSpared 40 = .ok (.iload_n 2, 1) := by decide +kernel
theorem dX11_isSpared_41 : decode cX11_isSpared 41 = .ok (.invokevirtual 192, 3) := by decide +kernel
theorem dX11_isSpared_44 : decode cX11_isSpared 44 = .ok (.invokevirtual 195, 3) := by decide +kernel
theorem dX11_isSpared_47 : decode cX11_isSpared 47 = .ok (.iload_n 1, 1) := by decide +kernel
theorem dX11_isSpared_48 : decode cX11_isSpared 48 = .ok (.if_icmp .ne 5, 3) := by decide +kernel
theorem dX11_isSpared_51 : decode cX11_isSpared 51 = .ok (.iconst 0, 1) := by decide +kernel
theorem dX11_isSpared_52 : decode cX11_isSpared 52 = .ok (.ireturn, 1) := by decide +kernel
theorem dX11_isSpared_53 : decode cX11_isSpared 53 = .ok (.iinc 2 1, 3) := by decide +kernel
theorem dX11_isSpared_56 : decode cX11_isSpared 56 = .ok (.goto (-43), 3) := by decide +kernel
theorem dX11_isSpared_59 : decode cX11_isSpared 59 = .ok (.iconst 1, 1) := by decide +kernel
theorem dX11_isSpared_60 : decode cX11_isSpared 60 = .ok (.ireturn, 1) := by decide +kernel
theorem dX11_stungBehind_0 : decode cX11_stungBehind 0 = .ok (.aload_n 0, 1) := by decide +kernel
theorem dX11_stungBehind_1 : decode cX11_stungBehind 1 = .ok (.iload_n 1, 1) := by decide +kernel
theorem dX11_stungBehind_2 : decode cX11_stungBehind 2 = .ok (.iconst 1, 1) := by decide +kernel
theorem dX11_stungBehind_3 : decode cX11_stungBehind 3 = .ok (.invokevirtual 195, 3) := by decide +kernel
theorem dX11_stungBehind_6 : decode cX11_stungBehind 6 = .ok (.iload_n 1, 1) := by decide +kernel
theorem dX11_stungBehind_7 : decode cX11_stungBehind 7 = .ok (.if_icmp .ne 5, 3) := by decide +kernel
theorem dX11_stungBehind_10 : decode cX11_stungBehind 10 = .ok (.iconst 0, 1) := by decide +kernel
theorem dX11_stungBehind_11 : decode cX11_stungBehind 11 = .ok (.ireturn, 1) := by decide +kernel
theorem dX11_stungBehind_12 : decode cX11_stungBehind 12 = .ok (.iconst 1, 1) := by decide +kernel
theorem dX11_stungBehind_13 : decode cX11_stungBehind 13 = .ok (.istore_n 2, 1) := by decide +kernel
theorem dX11_stungBehind_14 : decode cX11_stungBehind 14 = .ok (.iload_n 2, 1) := by decide +kernel
theorem dX11_stungBehind_15 : decode cX11_stungBehind 15 = .ok (.bipush 24, 2) := by decide +kernel
theorem dX11_stungBehind_17 : decode cX11_stungBehind 17 = .ok (.if_icmp .gt 19, 3) := by decide +kernel
theorem dX11_stungBehind_20 : decode cX11_stungBehind 20 = .ok (.aload_n 0, 1) := by decide +kernel
theorem dX11_stungBehind_21 : decode cX11_stungBehind 21 = .ok (.invokevirtual 391, 3) := by decide +kernel
theorem dX11_stungBehind_24 : decode cX11_stungBehind 24 = .ok (.iload_n 1, 1) := by decide +kernel
theorem dX11_stungBehind_25 : decode cX11_stungBehind 25 = .ok (.if_icmp .ne 5, 3) := by decide +kernel
theorem dX11_stungBehind_28 : decode cX11_stungBehind 28 = .ok (.iload_n 2, 1) := by decide +kernel
theorem dX11_stungBehind_29 : decode cX11_stungBehind 29 = .ok (.ireturn, 1) := by decide +kernel
theorem dX11_stungBehind_30 : decode cX11_stungBehind 30 = .ok (.iinc 2 1, 3) := by decide +kernel
theorem dX11_stungBehind_33 : decode cX11_stungBehind 33 = .ok (.goto (-19), 3) := by decide +kernel
theorem dX11_stungBehind_36 : decode cX11_stungBehind 36 = .ok (.bipush (-2), 2) := by decide +kernel
theorem dX11_stungBehind_38 : decode cX11_stungBehind 38 = .ok (.ireturn, 1) := by decide +kernel
