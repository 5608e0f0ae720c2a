theorem dX9_init_0 : decode cX9_init 0 = .ok (.aload_n 0, 1) := by decide +kernel
theorem dX9_init_1 : decode cX9_init 1 = .ok (.invokespecial 3, 3) := by decide +kernel
theorem dX9_init_4 : decode cX9_init 4 = .ok (.aload_n 0, 1) := by decide +kernel
theorem dX9_init_5 : decode cX9_init 5 = .ok (.iconst 0, 1) := by decide +kernel
theorem dX9_init_6 : decode cX9_init 6 = .ok (.putfield 9, 3) := by decide +kernel
theorem dX9_init_9 : decode cX9_init 9 = .ok (.aload_n 0, 1) := by decide +kernel
theorem dX9_init_10 : decode cX9_init 10 = .ok (.bipush 8, 2) := by decide +kernel
theorem dX9_init_12 : decode cX9_init 12 = .ok (.putfield 15, 3) := by decide +kernel
theorem dX9_init_15 : decode cX9_init 15 = .ok (.aload_n 0, 1) := by decide +kernel
theorem dX9_init_16 : decode cX9_init 16 = .ok (.iconst 4, 1) := by decide +kernel
theorem dX9_init_17 : decode cX9_init 17 = .ok (.putfield 18, 3) := by decide +kernel
theorem dX9_init_20 : decode cX9_init 20 = .ok (.aload_n 0, 1) := by decide +kernel
theorem dX9_init_21 : decode cX9_init 21 = .ok (.bipush 8, 2) := by decide +kernel
theorem dX9_init_23 : decode cX9_init 23 = .ok (.newarray .int, 2) := by decide +kernel
theorem dX9_init_25 : decode cX9_init 25 = .ok (.putfield 21, 3) := by decide +kernel
theorem dX9_init_28 : decode cX9_init 28 = .ok (.aload_n 0, 1) := by decide +kernel
theorem dX9_init_29 : decode cX9_init 29 = .ok (.bipush 8, 2) := by decide +kernel
theorem dX9_init_31 : decode cX9_init 31 = .ok (.newarray .int, 2) := by decide +kernel
theorem dX9_init_33 : decode cX9_init 33 = .ok (.putfield 25, 3) := by decide +kernel
theorem dX9_init_36 : decode cX9_init 36 = .ok (.aload_n 0, 1) := by decide +kernel
theorem dX9_init_37 : decode cX9_init 37 = .ok (.bipush 8, 2) := by decide +kernel
theorem dX9_init_39 : decode cX9_init 39 = .ok (.newarray .int, 2) := by decide +kernel
theorem dX9_init_41 : decode cX9_init 41 = .ok (.putfield 28, 3) := by decide +kernel
theorem dX9_init_44 : decode cX9_init 44 = .ok (.aload_n 0, 1) := by decide +kernel
theorem dX9_init_45 : decode cX9_init 45 = .ok (.bipush 8, 2) := by decide +kernel
theorem dX9_init_47 : decode cX9_init 47 = .ok (.newarray .int, 2) := by decide +kernel
theorem dX9_init_49 : decode cX9_init 49 = .ok (.putfield 31, 3) := by decide +kernel
theorem dX9_init_52 : decode cX9_init 52 = .ok (.return_, 1) := by decide +kernel
theorem dX9_has_0 : decode cX9_has 0 = .ok (.iload_n 1, 1) := by decide +kernel
theorem dX9_has_1 : decode cX9_has 1 = .ok (.ifCond .lt 15, 3) := by decide +kernel
theorem dX9_has_4 : decode cX9_has 4 = .ok (.iload_n 1, 1) := by decide +kernel
theorem dX9_has_5 : decode cX9_has 5 = .ok (.aload_n 0, 1) := by decide +kernel
theorem dX9_has_6 : decode cX9_has 6 = .ok (.getfield 9, 3) := by decide +kernel
theorem dX9_has_9 : decode cX9_has 9 = .ok (.if_icmp .ge 7, 3) := by decide +kernel
theorem dX9_has_12 : decode cX9_has 12 = .ok (.iconst 1, 1) := by decide +kernel
theorem dX9_has_13 : decode cX9_has 13 = .ok (.goto 4, 3) := by decide +kernel
theorem dX9_has_16 : decode cX9_has 16 = .ok (.iconst 0, 1) := by decide +kernel
theorem dX9_has_17 : decode cX9_has 17 = .ok (.ireturn, 1) := by decide +kernel
theorem dX9_join_0 : decode cX9_join 0 = .ok (.aload_n 0, 1) := by decide +kernel
theorem dX9_join_1 : decode cX9_join 1 = .ok (.getfield 9, 3) := by decide +kernel
theorem dX9_join_4 : decode cX9_join 4 = .ok (.istore_n 3, 1) := by decide +kernel
theorem dX9_join_5 : decode cX9_join 5 = .ok (.aload_n 0, 1) := by decide +kernel
theorem dX9_join_6 : decode cX9_join 6 = .ok (.dup, 1) := by decide +kernel
theorem dX9_join_7 : decode cX9_join 7 = .ok (.getfield 9, 3) := by decide +kernel
theorem dX9_join_10 : decode cX9_join 10 = .ok (.iconst 1, 1) := by decide +kernel
theorem dX9_join_11 : decode cX9_join 11 = .ok (.iadd, 1) := by decide +kernel
theorem dX9_join_12 : decode cX9_join 12 = .ok (.putfield 9, 3) := by decide +kernel
theorem dX9_join_15 : decode cX9_join 15 = .ok (.aload_n 0, 1) := by decide +kernel
theorem dX9_join_16 : decode cX9_join 16 = .ok (.getfield 21, 3) := by decide +kernel
theorem dX9_join_19 : decode cX9_join 19 = .ok (.iload_n 3, 1) := by decide +kernel
theorem dX9_join_20 : decode cX9_join 20 = .ok (.iload_n 1, 1) := by decide +kernel
theorem dX9_join_21 : decode cX9_join 21 = .ok (.iastore, 1) := by decide +kernel
theorem dX9_join_22 : decode cX9_join 22 = .ok (.aload_n 0, 1) := by decide +kernel
theorem dX9_join_23 : decode cX9_join 23 = .ok (.getfield 25, 3) := by decide +kernel
theorem dX9_join_26 : decode cX9_join 26 = .ok (.iload_n 3, 1) := by decide +kernel
theorem dX9_join_27 : decode cX9_join 27 = .ok (.iload_n 2, 1) := by decide +kernel
theorem dX9_join_28 : decode cX9_join 28 = .ok (.iastore, 1) := by decide +kernel
theorem dX9_join_29 : decode cX9_join 29 = .ok (.aload_n 0, 1) := by decide +kernel
theorem dX9_join_30 : decode cX9_join 30 = .ok (.getfield 28, 3) := by decide +kernel
theorem dX9_join_33 : decode cX9_join 33 = .ok (.iload_n 3, 1) := by decide +kernel
theorem dX9_join_34 : decode cX9_join 34 = .ok (.bipush 10, 2) := by decide +kernel
theorem dX9_join_36 : decode cX9_join 36 = .ok (.iastore, 1) := by decide +kernel
theorem dX9_join_37 : decode cX9_join 37 = .ok (.aload_n 0, 1) := by decide +kernel
theorem dX9_join_38 : decode cX9_join 38 = .ok (.invokevirtual 34, 3) := by decide +kernel
theorem dX9_join_41 : decode cX9_join 41 = .ok (.iload_n 3, 1) := by decide +kernel
theorem dX9_join_42 : decode cX9_join 42 = .ok (.ireturn, 1) := by decide +kernel
theorem dX9_place_0 : decode cX9_place 0 = .ok (.aload_n 0, 1) := by decide +kernel
theorem dX9_place_1 : decode cX9_place 1 = .ok (.getfield 21, 3) := by decide +kernel
theorem dX9_place_4 : decode cX9_place 4 = .ok (.iload_n 1, 1) := by decide +kernel
theorem dX9_place_5 : decode cX9_place 5 = .ok (.iload_n 2, 1) := by decide +kernel
theorem dX9_place_6 : decode cX9_place 6 = .ok (.iastore, 1) := by decide +kernel
theorem dX9_place_7 : decode cX9_place 7 = .ok (.aload_n 0, 1) := by decide +kernel
theorem dX9_place_8 : decode cX9_place 8 = .ok (.invokevirtual 34, 3) := by decide +kernel
theorem dX9_place_11 : decode cX9_place 11 = .ok (.return_, 1) := by decide +kernel
theorem dX9_setMile_0 : decode cX9_setMile 0 = .ok (.aload_n 0, 1) := by decide +kernel
theorem dX9_setMile_1 : decode cX9_setMile 1 = .ok (.iload_n 1, 1) := by decide +kernel
theorem dX9_setMile_2 : decode cX9_setMile 2 = .ok (.putfield 15, 3) := by decide +kernel
theorem dX9_setMile_5 : decode cX9_setMile 5 = .ok (.aload_n 0, 1) := by decide +kernel
theorem dX9_setMile_6 : decode cX9_setMile 6 = .ok (.invokevirtual 34, 3) := by decide +kernel
theorem dX9_setMile_9 : decode cX9_setMile 9 = .ok (.return_, 1) := by decide +kernel
theorem dX9_lookAround_0 : decode cX9_lookAround 0 = .ok (.iconst 0, 1) := by decide +kernel
theorem dX9_lookAround_1 : decode cX9_lookAround 1 = .ok (.istore_n 1, 1) := by decide +kernel
theorem dX9_lookAround_2 : decode cX9_lookAround 2 = .ok (.iload_n 1, 1) := by decide +kernel
theorem dX9_lookAround_3 : decode cX9_lookAround 3 = .ok (.aload_n 0, 1) := by decide +kernel
theorem dX9_lookAround_4 : decode cX9_lookAround 4 = .ok (.getfield 9, 3) := by decide +kernel
theorem dX9_lookAround_7 : decode cX9_lookAround 7 = .ok (.if_icmp .ge 28, 3) := by decide +kernel
theorem dX9_lookAround_10 : decode cX9_lookAround 10 = .ok (.aload_n 0, 1) := by decide +kernel
theorem dX9_lookAround_11 : decode cX9_lookAround 11 = .ok (.getfield 31, 3) := by decide +kernel
theorem dX9_lookAround_14 : decode cX9_lookAround 14 = .ok (.iload_n 1, 1) := by decide +kernel
theorem dX9_lookAround_15 : decode cX9_lookAround 15 = .ok (.aload_n 0, 1) := by decide +kernel
theorem dX9_lookAround_16 : decode cX9_lookAround 16 = .ok (.aload_n 0, 1) := by decide +kernel
theorem dX9_lookAround_17 : decode cX9_lookAround 17 = .ok (.getfield 21, 3) := by decide +kernel
theorem dX9_lookAround_20 : decode cX9_lookAround 20 = .ok (.iload_n 1, 1) := by decide +kernel
theorem dX9_lookAround_21 : decode cX9_lookAround 21 = .ok (.iaload, 1) := by decide +kernel
theorem dX9_lookAround_22 : decode cX9_lookAround 22 = .ok (.invokevirtual 37, 3) := by decide +kernel
theorem dX9_lookAround_25 : decode cX9_lookAround 25 = .ok (.invokestatic 41, 3) := by decide +kernel
theorem dX9_lookAround_28 : decode cX9_lookAround 28 = .ok (.iastore, 1) := by decide +kernel
theorem dX9_lookAround_29 : decode cX9_lookAround 29 = .ok (.iinc 1 1, 3) := by decide +kernel
theorem dX9_lookAround_32 : decode cX9_lookAround 32 = .ok (.goto (-30), 3) := by decide +kernel
theorem dX9_lookAround_35 : decode cX9_lookAround 35 = .ok (.return_, 1) := by decide +kernel
theorem dX9_within_0 : decode cX9_within 0 = .ok (.iconst 0, 1) := by decide +kernel
theorem dX9_within_1 : decode cX9_within 1 = .ok (.istore_n 2, 1) := by decide +kernel
theorem dX9_within_2 : decode cX9_within 2 = .ok (.iconst 0, 1) := by decide +kernel
theorem dX9_within_3 : decode cX9_within 3 = .ok (.istore_n 3, 1) := by decide +kernel
theorem dX9_within_4 : decode cX9_within 4 = .ok (.iload_n 3, 1) := by decide +kernel
theorem dX9_within_5 : decode cX9_within 5 = .ok (.aload_n 0, 1) := by decide +kernel
theorem dX9_within_6 : decode cX9_within 6 = .ok (.getfield 9, 3) := by decide +kernel
theorem dX9_within_9 : decode cX9_within 9 = .ok (.if_icmp .ge 32, 3) := by decide +kernel
theorem dX9_within_12 : decode cX9_within 12 = .ok (.aload_n 0, 1) := by decide +kernel
theorem dX9_within_13 : decode cX9_within 13 = .ok (.getfield 21, 3) := by decide +kernel
theorem dX9_within_16 : decode cX9_within 16 = .ok (.iload_n 3, 1) := by decide +kernel
theorem dX9_within_17 : decode cX9_within 17 = .ok (.iaload, 1) := by decide +kernel
theorem dX9_within_18 : decode cX9_within 18 = .ok (.iload_n 1, 1) := by decide +kernel
theorem dX9_within_19 : decode cX9_within 19 = .ok (.invokestatic 46, 3) := by decide +kernel
theorem dX9_within_22 : decode cX9_within 22 = .ok (.aload_n 0, 1) := by decide +kernel
theorem dX9_within_23 : decode cX9_within 23 = .ok (.getfield 15, 3) := by decide +kernel
theorem dX9_within_26 : decode cX9_within 26 = .ok (.if_icmp .gt 9, 3) := by decide +kernel
theorem dX9_within_29 : decode cX9_within 29 = .ok (.iload_n 2, 1) := by decide +kernel
theorem dX9_within_30 : decode cX9_within 30 = .ok (.iconst 1, 1) := by decide +kernel
theorem dX9_within_31 : decode cX9_within 31 = .ok (.iload_n 3, 1) := by decide +kernel
theorem dX9_within_32 : decode cX9_within 32 = .ok (.ishl, 1) := by decide +kernel
theorem dX9_within_33 : decode cX9_within 33 = .ok (.ior, 1) := by decide +kernel
theorem dX9_within_34 : decode cX9_within 34 = .ok (.istore_n 2, 1) := by decide +kernel
theorem dX9_within_35 : decode cX9_within 35 = .ok (.iinc 3 1, 3) := by decide +kernel
theorem dX9_within_38 : decode cX9_within 38 = .ok (.goto (-34), 3) := by decide +kernel
theorem dX9_within_41 : decode cX9_within 41 = .ok (.iload_n 2, 1) := by decide +kernel
theorem dX9_within_42 : decode cX9_within 42 = .ok (.ireturn, 1) := by decide +kernel
theorem dX9_isNearer_0 : decode cX9_isNearer 0 = .ok (.aload_n 0, 1) := by decide +kernel
theorem dX9_isNearer_1 : decode cX9_isNearer 1 = .ok (.getfield 21, 3) := by decide +kernel
theorem dX9_isNearer_4 : decode cX9_isNearer 4 = .ok (.iload_n 1, 1) := by decide +kernel
theorem dX9_isNearer_5 : decode cX9_isNearer 5 = .ok (.iaload, 1) := by decide +kernel
theorem dX9_isNearer_6 : decode cX9_isNearer 6 = .ok (.aload_n 0, 1) := by decide +kernel
theorem dX9_isNearer_7 : decode cX9_isNearer 7 = .ok (.getfield 21, 3) := by decide +kernel
theorem dX9_isNearer_10 : decode cX9_isNearer 10 = .ok (.iload_n 2, 1) := by decide +kernel
theorem dX9_isNearer_11 : decode cX9_isNearer 11 = .ok (.iaload, 1) := by decide +kernel
theorem dX9_isNearer_12 : decode cX9_isNearer 12 = .ok (.invokestatic 46, 3) := by decide +kernel
theorem dX9_isNearer_15 : decode cX9_isNearer 15 = .ok (.istore 4, 2) := by decide +kernel
theorem dX9_isNearer_17 : decode cX9_isNearer 17 = .ok (.aload_n 0, 1) := by decide +kernel
theorem dX9_isNearer_18 : decode cX9_isNearer 18 = .ok (.getfield 21, 3) := by decide +kernel
theorem dX9_isNearer_21 : decode cX9_isNearer 21 = .ok (.iload_n 1, 1) := by decide +kernel
theorem dX9_isNearer_22 : decode cX9_isNearer 22 = .ok (.iaload, 1) := by decide +kernel
theorem dX9_isNearer_23 : decode cX9_isNearer 23 = .ok (.aload_n 0, 1) := by decide +kernel
theorem dX9_isNearer_24 : decode cX9_isNearer 24 = .ok (.getfield 21, 3) := by decide +kernel
theorem dX9_isNearer_27 : decode cX9_isNearer 27 = .ok (.iload_n 3, 1) := by decide +kernel
theorem dX9_isNearer_28 : decode cX9_isNearer 28 = .ok (.iaload, 1) := by decide +kernel
theorem dX9_isNearer_29 : decode cX9_isNearer 29 = .ok (.invokestatic 46, 3) := by decide +kernel
theorem dX9_isNearer_32 : decode cX9_isNearer 32 = .ok (.istore 5, 2) := by decide +kernel
theorem dX9_isNearer_34 : decode cX9_isNearer 34 = .ok (.iload 4, 2) := by decide +kernel
theorem dX9_isNearer_36 : decode cX9_isNearer 36 = .ok (.iload 5, 2) := by decide +kernel
theorem dX9_isNearer_38 : decode cX9_isNearer 38 = .ok (.if_icmp .lt 25, 3) := by decide +kernel
theorem dX9_isNearer_41 : decode cX9_isNearer 41 = .ok (.iload 4, 2) := by decide +kernel
theorem dX9_isNearer_43 : decode cX9_isNearer 43 = .ok (.iload 5, 2) := by decide +kernel
theorem dX9_isNearer_45 : decode cX9_isNearer 45 = .ok (.if_icmp .ne 22, 3) := by decide +kernel
theorem dX9_isNearer_48 : decode cX9_isNearer 48 = .ok (.aload_n 0, 1) := by decide +kernel
theorem dX9_isNearer_49 : decode cX9_isNearer 49 = .ok (.getfield 25, 3) := by decide +kernel
theorem dX9_isNearer_52 : decode cX9_isNearer 52 = .ok (.iload_n 2, 1) := by decide +kernel
theorem dX9_isNearer_53 : decode cX9_isNearer 53 = .ok (.iaload, 1) := by decide +kernel
theorem dX9_isNearer_54 : decode cX9_isNearer 54 = .ok (.aload_n 0, 1) := by decide +kernel
theorem dX9_isNearer_55 : decode cX9_isNearer 55 = .ok (.getfield 25, 3) := by decide +kernel
theorem dX9_isNearer_58 : decode cX9_isNearer 58 = .ok (.iload_n 3, 1) := by decide +kernel
theorem dX9_isNearer_59 : decode cX9_isNearer 59 = .ok (.iaload, 1) := by decide +kernel
theorem dX9_isNearer_60 : decode cX9_isNearer 60 = .ok (.if_icmp .ge 7, 3) := by decide +kernel
theorem dX9_isNearer_63 : decode cX9_isNearer 63 = .ok (.iconst 1, 1) := by decide +kernel
theorem dX9_isNearer_64 : decode cX9_isNearer 64 = .ok (.goto 4, 3) := by decide +kernel
theorem dX9_isNearer_67 : decode cX9_isNearer 67 = .ok (.iconst 0, 1) := by decide +kernel
theorem dX9_isNearer_68 : decode cX9_isNearer 68 = .ok (.ireturn, 1) := by decide +kernel
theorem dX9_whoseCell_0 : decode cX9_whoseCell 0 = .ok (.iconst 0, 1) := by decide +kernel
theorem dX9_whoseCell_1 : decode cX9_whoseCell 1 = .ok (.istore_n 2, 1) := by decide +kernel
theorem dX9_whoseCell_2 : decode cX9_whoseCell 2 = .ok (.iload_n 2, 1) := by decide +kernel
theorem dX9_whoseCell_3 : decode cX9_whoseCell 3 = .ok (.aload_n 0, 1) := by decide +kernel
theorem dX9_whoseCell_4 : decode cX9_whoseCell 4 = .ok (.getfield 9, 3) := by decide +kernel
theorem dX9_whoseCell_7 : decode cX9_whoseCell 7 = .ok (.if_icmp .ge 21, 3) := by decide +kernel
theorem dX9_whoseCell_10 : decode cX9_whoseCell 10 = .ok (.aload_n 0, 1) := by decide +kernel
theorem dX9_whoseCell_11 : decode cX9_whoseCell 11 = .ok (.getfield 21, 3) := by decide +kernel
theorem dX9_whoseCell_14 : decode cX9_whoseCell 14 = .ok (.iload_n 2, 1) := by decide +kernel
theorem dX9_whoseCell_15 : decode cX9_whoseCell 15 = .ok (.iaload, 1) := by decide +kernel
theorem dX9_whoseCell_16 : decode cX9_whoseCell 16 = .ok (.iload_n 1, 1) := by decide +kernel
theorem dX9_whoseCell_17 : decode cX9_whoseCell 17 = .ok (.if_icmp .ne 5, 3) := by decide +kernel
theorem dX9_whoseCell_20 : decode cX9_whoseCell 20 = .ok (.iload_n 2, 1) := by decide +kernel
theorem dX9_whoseCell_21 : decode cX9_whoseCell 21 = .ok (.ireturn, 1) := by decide +kernel
theorem dX9_whoseCell_22 : decode cX9_whoseCell 22 = .ok (.iinc 2 1, 3) := by decide +kernel
theorem dX9_whoseCell_25 : decode cX9_whoseCell 25 = .ok (.goto (-23), 3) := by decide +kernel
theorem dX9_whoseCell_28 : decode cX9_whoseCell 28 = .ok (.bipush 8, 2) := by decide +kernel
theorem dX9_whoseCell_30 : decode cX9_whoseCell 30 = .ok (.ireturn, 1) := by decide +kernel
theorem dX9_apart_0 : decode cX9_apart 0 = .ok (.iload_n 0, 1) := by decide +kernel
theorem dX9_apart_1 : decode cX9_apart 1 = .ok (.bipush 15, 2) := by decide +kernel
theorem dX9_apart_3 : decode cX9_apart 3 = .ok (.iand, 1) := by decide +kernel
theorem dX9_apart_4 : decode cX9_apart 4 = .ok (.iload_n 1, 1) := by decide +kernel
theorem dX9_apart_5 : decode cX9_apart 5 = .ok (.bipush 15, 2) := by decide +kernel
theorem dX9_apart_7 : decode cX9_apart 7 = .ok (.iand, 1) := by decide +kernel
theorem dX9_apart_8 : decode cX9_apart 8 = .ok (.isub, 1) := by decide +kernel
theorem dX9_apart_9 : decode cX9_apart 9 = .ok (.istore_n 2, 1) := by decide +kernel
theorem dX9_apart_10 : decode cX9_apart 10 = .ok (.iload_n 0, 1) := by decide +kernel
theorem dX9_apart_11 : decode cX9_apart 11 = .ok (.iconst 4, 1) := by decide +kernel
theorem dX9_apart_12 : decode cX9_apart 12 = .ok (.ishr, 1) := by decide +kernel
theorem dX9_apart_13 : decode cX9_apart 13 = .ok (.iload_n 1, 1) := by decide +kernel
theorem dX9_apart_14 : decode cX9_apart 14 = .ok (.iconst 4, 1) := by decide +kernel
theorem dX9_apart_15 : decode cX9_apart 15 = .ok (.ishr, 1) := by decide +kernel
theorem dX9_apart_16 : decode cX9_apart 16 = .ok (.isub, 1) := by decide +kernel
theorem dX9_apart_17 : decode cX9_apart 17 = .ok (.istore_n 3, 1) := by decide +kernel
theorem dX9_apart_18 : decode cX9_apart 18 = .ok (.iload_n 2, 1) := by decide +kernel
theorem dX9_apart_19 : decode cX9_apart 19 = .ok (.ifCond .ge 8, 3) := by decide +kernel
theorem dX9_apart_22 : decode cX9_apart 22 = .ok (.iload_n 2, 1) := by decide +kernel
theorem dX9_apart_23 : decode cX9_apart 23 = .ok (.ineg, 1) := by decide +kernel
theorem dX9_apart_24 : decode cX9_apart 24 = .ok (.goto 4, 3) := by decide +kernel
theorem dX9_apart_27 : decode cX9_apart 27 = .ok (.iload_n 2, 1) := by decide +kernel
theorem dX9_apart_28 : decode cX9_apart 28 = .ok (.iload_n 3, 1) := by decide +kernel
theorem dX9_apart_29 : decode cX9_apart 29 = .ok (.ifCond .ge 8, 3) := by decide +kernel
theorem dX9_apart_32 : decode cX9_apart 32 = .ok (.iload_n 3, 1) := by decide +kernel
theorem dX9_apart_33 : decode cX9_apart 33 = .ok (.ineg, 1) := by decide +kernel
theorem dX9_apart_34 : decode cX9_apart 34 = .ok (.goto 4, 3) := by decide +kernel
theorem dX9_apart_37 : decode cX9_apart 37 = .ok (.iload_n 3, 1) := by decide +kernel
theorem dX9_apart_38 : decode cX9_apart 38 = .ok (.iadd, 1) := by decide +kernel
theorem dX9_apart_39 : decode cX9_apart 39 = .ok (.ireturn, 1) := by decide +kernel
