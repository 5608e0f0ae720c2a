theorem dX7_init_0 : decode cX7_init 0 = .ok (.aload_n 0, 1) := by decide +kernel
theorem dX7_init_1 : decode cX7_init 1 = .ok (.invokespecial 1, 3) := by decide +kernel
theorem dX7_init_4 : decode cX7_init 4 = .ok (.aload_n 0, 1) := by decide +kernel
theorem dX7_init_5 : decode cX7_init 5 = .ok (.iconst 0, 1) := by decide +kernel
theorem dX7_init_6 : decode cX7_init 6 = .ok (.newarray .int, 2) := by decide +kernel
theorem dX7_init_8 : decode cX7_init 8 = .ok (.putfield 7, 3) := by decide +kernel
theorem dX7_init_11 : decode cX7_init 11 = .ok (.aload_n 0, 1) := by decide +kernel
theorem dX7_init_12 : decode cX7_init 12 = .ok (.iconst 0, 1) := by decide +kernel
theorem dX7_init_13 : decode cX7_init 13 = .ok (.newarray .int, 2) := by decide +kernel
theorem dX7_init_15 : decode cX7_init 15 = .ok (.putfield 13, 3) := by decide +kernel
theorem dX7_init_18 : decode cX7_init 18 = .ok (.aload_n 0, 1) := by decide +kernel
theorem dX7_init_19 : decode cX7_init 19 = .ok (.iconst 0, 1) := by decide +kernel
theorem dX7_init_20 : decode cX7_init 20 = .ok (.putfield 16, 3) := by decide +kernel
theorem dX7_init_23 : decode cX7_init 23 = .ok (.aload_n 0, 1) := by decide +kernel
theorem dX7_init_24 : decode cX7_init 24 = .ok (.iconst 0, 1) := by decide +kernel
theorem dX7_init_25 : decode cX7_init 25 = .ok (.putfield 20, 3) := by decide +kernel
theorem dX7_init_28 : decode cX7_init 28 = .ok (.aload_n 0, 1) := by decide +kernel
theorem dX7_init_29 : decode cX7_init 29 = .ok (.iconst 0, 1) := by decide +kernel
theorem dX7_init_30 : decode cX7_init 30 = .ok (.putfield 23, 3) := by decide +kernel
theorem dX7_init_33 : decode cX7_init 33 = .ok (.return_, 1) := by decide +kernel
theorem dX7_nameOf_0 : decode cX7_nameOf 0 = .ok (.iload_n 0, 1) := by decide +kernel
theorem dX7_nameOf_1 : decode cX7_nameOf 1 = .ok (.tableswitch 75 99 110 #[63, 67, 75, 75, 65, 69, 75, 75, 73, 75, 75, 71], 63) := by decide +kernel
theorem dX7_nameOf_64 : decode cX7_nameOf 64 = .ok (.iconst 0, 1) := by decide +kernel
theorem dX7_nameOf_65 : decode cX7_nameOf 65 = .ok (.ireturn, 1) := by decide +kernel
theorem dX7_nameOf_66 : decode cX7_nameOf 66 = .ok (.iconst 1, 1) := by decide +kernel
theorem dX7_nameOf_67 : decode cX7_nameOf 67 = .ok (.ireturn, 1) := by decide +kernel
theorem dX7_nameOf_68 : decode cX7_nameOf 68 = .ok (.iconst 2, 1) := by decide +kernel
theorem dX7_nameOf_69 : decode cX7_nameOf 69 = .ok (.ireturn, 1) := by decide +kernel
theorem dX7_nameOf_70 : decode cX7_nameOf 70 = .ok (.iconst 3, 1) := by decide +kernel
theorem dX7_nameOf_71 : decode cX7_nameOf 71 = .ok (.ireturn, 1) := by decide +kernel
theorem dX7_nameOf_72 : decode cX7_nameOf 72 = .ok (.iconst 4, 1) := by decide +kernel
theorem dX7_nameOf_73 : decode cX7_nameOf 73 = .ok (.ireturn, 1) := by decide +kernel
theorem dX7_nameOf_74 : decode cX7_nameOf 74 = .ok (.iconst 5, 1) := by decide +kernel
theorem dX7_nameOf_75 : decode cX7_nameOf 75 = .ok (.ireturn, 1) := by decide +kernel
theorem dX7_nameOf_76 : decode cX7_nameOf 76 = .ok (.iconst (-1), 1) := by decide +kernel
theorem dX7_nameOf_77 : decode cX7_nameOf 77 = .ok (.ireturn, 1) := by decide +kernel
theorem dX7_read_0 : decode cX7_read 0 = .ok (.aload_n 0, 1) := by decide +kernel
theorem dX7_read_1 : decode cX7_read 1 = .ok (.aload_n 1, 1) := by decide +kernel
theorem dX7_read_2 : decode cX7_read 2 = .ok (.putfield 7, 3) := by decide +kernel
theorem dX7_read_5 : decode cX7_read 5 = .ok (.aload_n 0, 1) := by decide +kernel
theorem dX7_read_6 : decode cX7_read 6 = .ok (.iload_n 2, 1) := by decide +kernel
theorem dX7_read_7 : decode cX7_read 7 = .ok (.aload_n 1, 1) := by decide +kernel
theorem dX7_read_8 : decode cX7_read 8 = .ok (.arraylength, 1) := by decide +kernel
theorem dX7_read_9 : decode cX7_read 9 = .ok (.invokestatic 26, 3) := by decide +kernel
theorem dX7_read_12 : decode cX7_read 12 = .ok (.putfield 16, 3) := by decide +kernel
theorem dX7_read_15 : decode cX7_read 15 = .ok (.aload_n 0, 1) := by decide +kernel
theorem dX7_read_16 : decode cX7_read 16 = .ok (.aload_n 3, 1) := by decide +kernel
theorem dX7_read_17 : decode cX7_read 17 = .ok (.putfield 13, 3) := by decide +kernel
theorem dX7_read_20 : decode cX7_read 20 = .ok (.aload_n 0, 1) := by decide +kernel
theorem dX7_read_21 : decode cX7_read 21 = .ok (.iconst 0, 1) := by decide +kernel
theorem dX7_read_22 : decode cX7_read 22 = .ok (.putfield 20, 3) := by decide +kernel
theorem dX7_read_25 : decode cX7_read 25 = .ok (.aload_n 0, 1) := by decide +kernel
theorem dX7_read_26 : decode cX7_read 26 = .ok (.iconst 0, 1) := by decide +kernel
theorem dX7_read_27 : decode cX7_read 27 = .ok (.putfield 23, 3) := by decide +kernel
theorem dX7_read_30 : decode cX7_read 30 = .ok (.iconst 0, 1) := by decide +kernel
theorem dX7_read_31 : decode cX7_read 31 = .ok (.istore 4, 2) := by decide +kernel
theorem dX7_read_33 : decode cX7_read 33 = .ok (.iload 4, 2) := by decide +kernel
theorem dX7_read_35 : decode cX7_read 35 = .ok (.aload_n 0, 1) := by decide +kernel
theorem dX7_read_36 : decode cX7_read 36 = .ok (.getfield 16, 3) := by decide +kernel
theorem dX7_read_39 : decode cX7_read 39 = .ok (.if_icmp .gt 42, 3) := by decide +kernel
theorem dX7_read_42 : decode cX7_read 42 = .ok (.aload_n 0, 1) := by decide +kernel
theorem dX7_read_43 : decode cX7_read 43 = .ok (.invokevirtual 32, 3) := by decide +kernel
theorem dX7_read_46 : decode cX7_read 46 = .ok (.ifCond .ne 5, 3) := by decide +kernel
theorem dX7_read_49 : decode cX7_read 49 = .ok (.iconst 0, 1) := by decide +kernel
theorem dX7_read_50 : decode cX7_read 50 = .ok (.ireturn, 1) := by decide +kernel
theorem dX7_read_51 : decode cX7_read 51 = .ok (.aload_n 0, 1) := by decide +kernel
theorem dX7_read_52 : decode cX7_read 52 = .ok (.getfield 20, 3) := by decide +kernel
theorem dX7_read_55 : decode cX7_read 55 = .ok (.aload_n 0, 1) := by decide +kernel
theorem dX7_read_56 : decode cX7_read 56 = .ok (.getfield 16, 3) := by decide +kernel
theorem dX7_read_59 : decode cX7_read 59 = .ok (.if_icmp .lt 5, 3) := by decide +kernel
theorem dX7_read_62 : decode cX7_read 62 = .ok (.iconst 1, 1) := by decide +kernel
theorem dX7_read_63 : decode cX7_read 63 = .ok (.ireturn, 1) := by decide +kernel
theorem dX7_read_64 : decode cX7_read 64 = .ok (.aload_n 0, 1) := by decide +kernel
theorem dX7_read_65 : decode cX7_read 65 = .ok (.bipush 59, 2) := by decide +kernel
theorem dX7_read_67 : decode cX7_read 67 = .ok (.invokevirtual 36, 3) := by decide +kernel
theorem dX7_read_70 : decode cX7_read 70 = .ok (.ifCond .ne 5, 3) := by decide +kernel
theorem dX7_read_73 : decode cX7_read 73 = .ok (.iconst 0, 1) := by decide +kernel
theorem dX7_read_74 : decode cX7_read 74 = .ok (.ireturn, 1) := by decide +kernel
theorem dX7_read_75 : decode cX7_read 75 = .ok (.iinc 4 1, 3) := by decide +kernel
theorem dX7_read_78 : decode cX7_read 78 = .ok (.goto (-45), 3) := by decide +kernel
theorem dX7_read_81 : decode cX7_read 81 = .ok (.iconst 0, 1) := by decide +kernel
theorem dX7_read_82 : decode cX7_read 82 = .ok (.ireturn, 1) := by decide +kernel
theorem dX7_readLine_0 : decode cX7_readLine 0 = .ok (.aload_n 0, 1) := by decide +kernel
theorem dX7_readLine_1 : decode cX7_readLine 1 = .ok (.iconst 0, 1) := by decide +kernel
theorem dX7_readLine_2 : decode cX7_readLine 2 = .ok (.invokevirtual 40, 3) := by decide +kernel
theorem dX7_readLine_5 : decode cX7_readLine 5 = .ok (.ifCond .ne 5, 3) := by decide +kernel
theorem dX7_readLine_8 : decode cX7_readLine 8 = .ok (.iconst 0, 1) := by decide +kernel
theorem dX7_readLine_9 : decode cX7_readLine 9 = .ok (.ireturn, 1) := by decide +kernel
theorem dX7_readLine_10 : decode cX7_readLine 10 = .ok (.iconst (-1), 1) := by decide +kernel
theorem dX7_readLine_11 : decode cX7_readLine 11 = .ok (.istore_n 1, 1) := by decide +kernel
theorem dX7_readLine_12 : decode cX7_readLine 12 = .ok (.aload_n 0, 1) := by decide +kernel
theorem dX7_readLine_13 : decode cX7_readLine 13 = .ok (.bipush 63, 2) := by decide +kernel
theorem dX7_readLine_15 : decode cX7_readLine 15 = .ok (.invokevirtual 36, 3) := by decide +kernel
theorem dX7_readLine_18 : decode cX7_readLine 18 = .ok (.ifCond .eq 31, 3) := by decide +kernel
theorem dX7_readLine_21 : decode cX7_readLine 21 = .ok (.aload_n 0, 1) := by decide +kernel
theorem dX7_readLine_22 : decode cX7_readLine 22 = .ok (.bipush (-63), 2) := by decide +kernel
theorem dX7_readLine_24 : decode cX7_readLine 24 = .ok (.invokevirtual 43, 3) := by decide +kernel
theorem dX7_readLine_27 : decode cX7_readLine 27 = .ok (.pop, 1) := by decide +kernel
theorem dX7_readLine_28 : decode cX7_readLine 28 = .ok (.aload_n 0, 1) := by decide +kernel
theorem dX7_readLine_29 : decode cX7_readLine 29 = .ok (.getfield 23, 3) := by decide +kernel
theorem dX7_readLine_32 : decode cX7_readLine 32 = .ok (.istore_n 1, 1) := by decide +kernel
theorem dX7_readLine_33 : decode cX7_readLine 33 = .ok (.aload_n 0, 1) := by decide +kernel
theorem dX7_readLine_34 : decode cX7_readLine 34 = .ok (.iconst 0, 1) := by decide +kernel
theorem dX7_readLine_35 : decode cX7_readLine 35 = .ok (.invokevirtual 43, 3) := by decide +kernel
theorem dX7_readLine_38 : decode cX7_readLine 38 = .ok (.pop, 1) := by decide +kernel
theorem dX7_readLine_39 : decode cX7_readLine 39 = .ok (.aload_n 0, 1) := by decide +kernel
theorem dX7_readLine_40 : decode cX7_readLine 40 = .ok (.iconst 0, 1) := by decide +kernel
theorem dX7_readLine_41 : decode cX7_readLine 41 = .ok (.invokevirtual 40, 3) := by decide +kernel
theorem dX7_readLine_44 : decode cX7_readLine 44 = .ok (.ifCond .ne 5, 3) := by decide +kernel
theorem dX7_readLine_47 : decode cX7_readLine 47 = .ok (.iconst 0, 1) := by decide +kernel
theorem dX7_readLine_48 : decode cX7_readLine 48 = .ok (.ireturn, 1) := by decide +kernel
theorem dX7_readLine_49 : decode cX7_readLine 49 = .ok (.aload_n 0, 1) := by decide +kernel
theorem dX7_readLine_50 : decode cX7_readLine 50 = .ok (.bipush (-59), 2) := by decide +kernel
theorem dX7_readLine_52 : decode cX7_readLine 52 = .ok (.invokevirtual 43, 3) := by decide +kernel
theorem dX7_readLine_55 : decode cX7_readLine 55 = .ok (.pop, 1) := by decide +kernel
theorem dX7_readLine_56 : decode cX7_readLine 56 = .ok (.iload_n 1, 1) := by decide +kernel
theorem dX7_readLine_57 : decode cX7_readLine 57 = .ok (.ifCond .lt 22, 3) := by decide +kernel
theorem dX7_readLine_60 : decode cX7_readLine 60 = .ok (.iload_n 1, 1) := by decide +kernel
theorem dX7_readLine_61 : decode cX7_readLine 61 = .ok (.aload_n 0, 1) := by decide +kernel
theorem dX7_readLine_62 : decode cX7_readLine 62 = .ok (.getfield 13, 3) := by decide +kernel
theorem dX7_readLine_65 : decode cX7_readLine 65 = .ok (.arraylength, 1) := by decide +kernel
theorem dX7_readLine_66 : decode cX7_readLine 66 = .ok (.if_icmp .ge 13, 3) := by decide +kernel
theorem dX7_readLine_69 : decode cX7_readLine 69 = .ok (.aload_n 0, 1) := by decide +kernel
theorem dX7_readLine_70 : decode cX7_readLine 70 = .ok (.getfield 13, 3) := by decide +kernel
theorem dX7_readLine_73 : decode cX7_readLine 73 = .ok (.iload_n 1, 1) := by decide +kernel
theorem dX7_readLine_74 : decode cX7_readLine 74 = .ok (.aload_n 0, 1) := by decide +kernel
theorem dX7_readLine_75 : decode cX7_readLine 75 = .ok (.getfield 23, 3) := by decide +kernel
theorem dX7_readLine_78 : decode cX7_readLine 78 = .ok (.iastore, 1) := by decide +kernel
theorem dX7_readLine_79 : decode cX7_readLine 79 = .ok (.iconst 1, 1) := by decide +kernel
theorem dX7_readLine_80 : decode cX7_readLine 80 = .ok (.ireturn, 1) := by decide +kernel
theorem dX7_readEither_0 : decode cX7_readEither 0 = .ok (.aload_n 0, 1) := by decide +kernel
theorem dX7_readEither_1 : decode cX7_readEither 1 = .ok (.iload_n 1, 1) := by decide +kernel
theorem dX7_readEither_2 : decode cX7_readEither 2 = .ok (.invokevirtual 46, 3) := by decide +kernel
theorem dX7_readEither_5 : decode cX7_readEither 5 = .ok (.ifCond .ne 5, 3) := by decide +kernel
theorem dX7_readEither_8 : decode cX7_readEither 8 = .ok (.iconst 0, 1) := by decide +kernel
theorem dX7_readEither_9 : decode cX7_readEither 9 = .ok (.ireturn, 1) := by decide +kernel
theorem dX7_readEither_10 : decode cX7_readEither 10 = .ok (.aload_n 0, 1) := by decide +kernel
theorem dX7_readEither_11 : decode cX7_readEither 11 = .ok (.getfield 20, 3) := by decide +kernel
theorem dX7_readEither_14 : decode cX7_readEither 14 = .ok (.aload_n 0, 1) := by decide +kernel
theorem dX7_readEither_15 : decode cX7_readEither 15 = .ok (.getfield 16, 3) := by decide +kernel
theorem dX7_readEither_18 : decode cX7_readEither 18 = .ok (.if_icmp .ge 42, 3) := by decide +kernel
theorem dX7_readEither_21 : decode cX7_readEither 21 = .ok (.aload_n 0, 1) := by decide +kernel
theorem dX7_readEither_22 : decode cX7_readEither 22 = .ok (.invokevirtual 49, 3) := by decide +kernel
theorem dX7_readEither_25 : decode cX7_readEither 25 = .ok (.bipush 124, 2) := by decide +kernel
theorem dX7_readEither_27 : decode cX7_readEither 27 = .ok (.if_icmp .ne 33, 3) := by decide +kernel
theorem dX7_readEither_30 : decode cX7_readEither 30 = .ok (.aload_n 0, 1) := by decide +kernel
theorem dX7_readEither_31 : decode cX7_readEither 31 = .ok (.dup, 1) := by decide +kernel
theorem dX7_readEither_32 : decode cX7_readEither 32 = .ok (.getfield 20, 3) := by decide +kernel
theorem dX7_readEither_35 : decode cX7_readEither 35 = .ok (.iconst 1, 1) := by decide +kernel
theorem dX7_readEither_36 : decode cX7_readEither 36 = .ok (.iadd, 1) := by decide +kernel
theorem dX7_readEither_37 : decode cX7_readEither 37 = .ok (.putfield 20, 3) := by decide +kernel
theorem dX7_readEither_40 : decode cX7_readEither 40 = .ok (.aload_n 0, 1) := by decide +kernel
theorem dX7_readEither_41 : decode cX7_readEither 41 = .ok (.iload_n 1, 1) := by decide +kernel
theorem dX7_readEither_42 : decode cX7_readEither 42 = .ok (.invokevirtual 46, 3) := by decide +kernel
theorem dX7_readEither_45 : decode cX7_readEither 45 = .ok (.ifCond .ne 5, 3) := by decide +kernel
theorem dX7_readEither_48 : decode cX7_readEither 48 = .ok (.iconst 0, 1) := by decide +kernel
theorem dX7_readEither_49 : decode cX7_readEither 49 = .ok (.ireturn, 1) := by decide +kernel
theorem dX7_readEither_50 : decode cX7_readEither 50 = .ok (.aload_n 0, 1) := by decide +kernel
theorem dX7_readEither_51 : decode cX7_readEither 51 = .ok (.bipush (-124), 2) := by decide +kernel
theorem dX7_readEither_53 : decode cX7_readEither 53 = .ok (.invokevirtual 43, 3) := by decide +kernel
theorem dX7_readEither_56 : decode cX7_readEither 56 = .ok (.pop, 1) := by decide +kernel
theorem dX7_readEither_57 : decode cX7_readEither 57 = .ok (.goto (-47), 3) := by decide +kernel
theorem dX7_readEither_60 : decode cX7_readEither 60 = .ok (.iconst 1, 1) := by decide +kernel
theorem dX7_readEither_61 : decode cX7_readEither 61 = .ok (.ireturn, 1) := by decide +kernel
theorem dX7_readBoth_0 : decode cX7_readBoth 0 = .ok (.aload_n 0, 1) := by decide +kernel
theorem dX7_readBoth_1 : decode cX7_readBoth 1 = .ok (.iload_n 1, 1) := by decide +kernel
theorem dX7_readBoth_2 : decode cX7_readBoth 2 = .ok (.invokevirtual 53, 3) := by decide +kernel
theorem dX7_readBoth_5 : decode cX7_readBoth 5 = .ok (.ifCond .ne 5, 3) := by decide +kernel
theorem dX7_readBoth_8 : decode cX7_readBoth 8 = .ok (.iconst 0, 1) := by decide +kernel
theorem dX7_readBoth_9 : decode cX7_readBoth 9 = .ok (.ireturn, 1) := by decide +kernel
theorem dX7_readBoth_10 : decode cX7_readBoth 10 = .ok (.aload_n 0, 1) := by decide +kernel
theorem dX7_readBoth_11 : decode cX7_readBoth 11 = .ok (.getfield 20, 3) := by decide +kernel
theorem dX7_readBoth_14 : decode cX7_readBoth 14 = .ok (.aload_n 0, 1) := by decide +kernel
theorem dX7_readBoth_15 : decode cX7_readBoth 15 = .ok (.getfield 16, 3) := by decide +kernel
theorem dX7_readBoth_18 : decode cX7_readBoth 18 = .ok (.if_icmp .ge 42, 3) := by decide +kernel
theorem dX7_readBoth_21 : decode cX7_readBoth 21 = .ok (.aload_n 0, 1) := by decide +kernel
theorem dX7_readBoth_22 : decode cX7_readBoth 22 = .ok (.invokevirtual 49, 3) := by decide +kernel
theorem dX7_readBoth_25 : decode cX7_readBoth 25 = .ok (.bipush 38, 2) := by decide +kernel
theorem dX7_readBoth_27 : decode cX7_readBoth 27 = .ok (.if_icmp .ne 33, 3) := by decide +kernel
theorem dX7_readBoth_30 : decode cX7_readBoth 30 = .ok (.aload_n 0, 1) := by decide +kernel
theorem dX7_readBoth_31 : decode cX7_readBoth 31 = .ok (.dup, 1) := by decide +kernel
theorem dX7_readBoth_32 : decode cX7_readBoth 32 = .ok (.getfield 20, 3) := by decide +kernel
theorem dX7_readBoth_35 : decode cX7_readBoth 35 = .ok (.iconst 1, 1) := by decide +kernel
theorem dX7_readBoth_36 : decode cX7_readBoth 36 = .ok (.iadd, 1) := by decide +kernel
theorem dX7_readBoth_37 : decode cX7_readBoth 37 = .ok (.putfield 20, 3) := by decide +kernel
theorem dX7_readBoth_40 : decode cX7_readBoth 40 = .ok (.aload_n 0, 1) := by decide +kernel
theorem dX7_readBoth_41 : decode cX7_readBoth 41 = .ok (.iload_n 1, 1) := by decide +kernel
theorem dX7_readBoth_42 : decode cX7_readBoth 42 = .ok (.invokevirtual 53, 3) := by decide +kernel
theorem dX7_readBoth_45 : decode cX7_readBoth 45 = .ok (.ifCond .ne 5, 3) := by decide +kernel
theorem dX7_readBoth_48 : decode cX7_readBoth 48 = .ok (.iconst 0, 1) := by decide +kernel
theorem dX7_readBoth_49 : decode cX7_readBoth 49 = .ok (.ireturn, 1) := by decide +kernel
theorem dX7_readBoth_50 : decode cX7_readBoth 50 = .ok (.aload_n 0, 1) := by decide +kernel
theorem dX7_readBoth_51 : decode cX7_readBoth 51 = .ok (.bipush (-38), 2) := by decide +kernel
theorem dX7_readBoth_53 : decode cX7_readBoth 53 = .ok (.invokevirtual 43, 3) := by decide +kernel
theorem dX7_readBoth_56 : decode cX7_readBoth 56 = .ok (.pop, 1) := by decide +kernel
theorem dX7_readBoth_57 : decode cX7_readBoth 57 = .ok (.goto (-47), 3) := by decide +kernel
theorem dX7_readBoth_60 : decode cX7_readBoth 60 = .ok (.iconst 1, 1) := by decide +kernel
theorem dX7_readBoth_61 : decode cX7_readBoth 61 = .ok (.ireturn, 1) := by decide +kernel
theorem dX7_readCompared_0 : decode cX7_readCompared 0 = .ok (.aload_n 0, 1) := by decide +kernel
theorem dX7_readCompared_1 : decode cX7_readCompared 1 = .ok (.iload_n 1, 1) := by decide +kernel
theorem dX7_readCompared_2 : decode cX7_readCompared 2 = .ok (.invokevirtual 56, 3) := by decide +kernel
theorem dX7_readCompared_5 : decode cX7_readCompared 5 = .ok (.ifCond .ne 5, 3) := by decide +kernel
theorem dX7_readCompared_8 : decode cX7_readCompared 8 = .ok (.iconst 0, 1) := by decide +kernel
theorem dX7_readCompared_9 : decode cX7_readCompared 9 = .ok (.ireturn, 1) := by decide +kernel
theorem dX7_readCompared_10 : decode cX7_readCompared 10 = .ok (.aload_n 0, 1) := by decide +kernel
theorem dX7_readCompared_11 : decode cX7_readCompared 11 = .ok (.invokevirtual 49, 3) := by decide +kernel
theorem dX7_readCompared_14 : decode cX7_readCompared 14 = .ok (.istore_n 2, 1) := by decide +kernel
theorem dX7_readCompared_15 : decode cX7_readCompared 15 = .ok (.iload_n 2, 1) := by decide +kernel
theorem dX7_readCompared_16 : decode cX7_readCompared 16 = .ok (.bipush 60, 2) := by decide +kernel
theorem dX7_readCompared_18 : decode cX7_readCompared 18 = .ok (.if_icmp .eq 17, 3) := by decide +kernel
theorem dX7_readCompared_21 : decode cX7_readCompared 21 = .ok (.iload_n 2, 1) := by decide +kernel
theorem dX7_readCompared_22 : decode cX7_readCompared 22 = .ok (.bipush 61, 2) := by decide +kernel
theorem dX7_readCompared_24 : decode cX7_readCompared 24 = .ok (.if_icmp .eq 11, 3) := by decide +kernel
theorem dX7_readCompared_27 : decode cX7_readCompared 27 = .ok (.iload_n 2, 1) := by decide +kernel
theorem dX7_readCompared_28 : decode cX7_readCompared 28 = .ok (.bipush 62, 2) := by decide +kernel
theorem dX7_readCompared_30 : decode cX7_readCompared 30 = .ok (.if_icmp .eq 5, 3) := by decide +kernel
theorem dX7_readCompared_33 : decode cX7_readCompared 33 = .ok (.iconst 1, 1) := by decide +kernel
theorem dX7_readCompared_34 : decode cX7_readCompared 34 = .ok (.ireturn, 1) := by decide +kernel
theorem dX7_readCompared_35 : decode cX7_readCompared 35 = .ok (.aload_n 0, 1) := by decide +kernel
theorem dX7_readCompared_36 : decode cX7_readCompared 36 = .ok (.dup, 1) := by decide +kernel
theorem dX7_readCompared_37 : decode cX7_readCompared 37 = .ok (.getfield 20, 3) := by decide +kernel
theorem dX7_readCompared_40 : decode cX7_readCompared 40 = .ok (.iconst 1, 1) := by decide +kernel
theorem dX7_readCompared_41 : decode cX7_readCompared 41 = .ok (.iadd, 1) := by decide +kernel
theorem dX7_readCompared_42 : decode cX7_readCompared 42 = .ok (.putfield 20, 3) := by decide +kernel
theorem dX7_readCompared_45 : decode cX7_readCompared 45 = .ok (.aload_n 0, 1) := by decide +kernel
theorem dX7_readCompared_46 : decode cX7_readCompared 46 = .ok (.iload_n 1, 1) := by decide +kernel
theorem dX7_readCompared_47 : decode cX7_readCompared 47 = .ok (.invokevirtual 56, 3) := by decide +kernel
theorem dX7_readCompared_50 : decode cX7_readCompared 50 = .ok (.ifCond .ne 5, 3) := by decide +kernel
theorem dX7_readCompared_53 : decode cX7_readCompared 53 = .ok (.iconst 0, 1) := by decide +kernel
theorem dX7_readCompared_54 : decode cX7_readCompared 54 = .ok (.ireturn, 1) := by decide +kernel
theorem dX7_readCompared_55 : decode cX7_readCompared 55 = .ok (.aload_n 0, 1) := by decide +kernel
theorem dX7_readCompared_56 : decode cX7_readCompared 56 = .ok (.iload_n 2, 1) := by decide +kernel
theorem dX7_readCompared_57 : decode cX7_readCompared 57 = .ok (.ineg, 1) := by decide +kernel
theorem dX7_readCompared_58 : decode cX7_readCompared 58 = .ok (.invokevirtual 43, 3) := by decide +kernel
theorem dX7_readCompared_61 : decode cX7_readCompared 61 = .ok (.pop, 1) := by decide +kernel
theorem dX7_readCompared_62 : decode cX7_readCompared 62 = .ok (.iconst 1, 1) := by decide +kernel
theorem dX7_readCompared_63 : decode cX7_readCompared 63 = .ok (.ireturn, 1) := by decide +kernel
theorem dX7_readSum_0 : decode cX7_readSum 0 = .ok (.aload_n 0, 1) := by decide +kernel
theorem dX7_readSum_1 : decode cX7_readSum 1 = .ok (.iload_n 1, 1) := by decide +kernel
theorem dX7_readSum_2 : decode cX7_readSum 2 = .ok (.invokevirtual 59, 3) := by decide +kernel
theorem dX7_readSum_5 : decode cX7_readSum 5 = .ok (.ifCond .ne 5, 3) := by decide +kernel
theorem dX7_readSum_8 : decode cX7_readSum 8 = .ok (.iconst 0, 1) := by decide +kernel
theorem dX7_readSum_9 : decode cX7_readSum 9 = .ok (.ireturn, 1) := by decide +kernel
theorem dX7_readSum_10 : decode cX7_readSum 10 = .ok (.aload_n 0, 1) := by decide +kernel
theorem dX7_readSum_11 : decode cX7_readSum 11 = .ok (.invokevirtual 49, 3) := by decide +kernel
theorem dX7_readSum_14 : decode cX7_readSum 14 = .ok (.istore_n 2, 1) := by decide +kernel
theorem dX7_readSum_15 : decode cX7_readSum 15 = .ok (.aload_n 0, 1) := by decide +kernel
theorem dX7_readSum_16 : decode cX7_readSum 16 = .ok (.getfield 20, 3) := by decide +kernel
theorem dX7_readSum_19 : decode cX7_readSum 19 = .ok (.aload_n 0, 1) := by decide +kernel
theorem dX7_readSum_20 : decode cX7_readSum 20 = .ok (.getfield 16, 3) := by decide +kernel
theorem dX7_readSum_23 : decode cX7_readSum 23 = .ok (.if_icmp .ge 50, 3) := by decide +kernel
theorem dX7_readSum_26 : decode cX7_readSum 26 = .ok (.iload_n 2, 1) := by decide +kernel
theorem dX7_readSum_27 : decode cX7_readSum 27 = .ok (.bipush 43, 2) := by decide +kernel
theorem dX7_readSum_29 : decode cX7_readSum 29 = .ok (.if_icmp .eq 9, 3) := by decide +kernel
theorem dX7_readSum_32 : decode cX7_readSum 32 = .ok (.iload_n 2, 1) := by decide +kernel
theorem dX7_readSum_33 : decode cX7_readSum 33 = .ok (.bipush 45, 2) := by decide +kernel
theorem dX7_readSum_35 : decode cX7_readSum 35 = .ok (.if_icmp .ne 38, 3) := by decide +kernel
theorem dX7_readSum_38 : decode cX7_readSum 38 = .ok (.aload_n 0, 1) := by decide +kernel
theorem dX7_readSum_39 : decode cX7_readSum 39 = .ok (.dup, 1) := by decide +kernel
theorem dX7_readSum_40 : decode cX7_readSum 40 = .ok (.getfield 20, 3) := by decide +kernel
theorem dX7_readSum_43 : decode cX7_readSum 43 = .ok (.iconst 1, 1) := by decide +kernel
theorem dX7_readSum_44 : decode cX7_readSum 44 = .ok (.iadd, 1) := by decide +kernel
theorem dX7_readSum_45 : decode cX7_readSum 45 = .ok (.putfield 20, 3) := by decide +kernel
theorem dX7_readSum_48 : decode cX7_readSum 48 = .ok (.aload_n 0, 1) := by decide +kernel
theorem dX7_readSum_49 : decode cX7_readSum 49 = .ok (.iload_n 1, 1) := by decide +kernel
theorem dX7_readSum_50 : decode cX7_readSum 50 = .ok (.invokevirtual 59, 3) := by decide +kernel
theorem dX7_readSum_53 : decode cX7_readSum 53 = .ok (.ifCond .ne 5, 3) := by decide +kernel
theorem dX7_readSum_56 : decode cX7_readSum 56 = .ok (.iconst 0, 1) := by decide +kernel
theorem dX7_readSum_57 : decode cX7_readSum 57 = .ok (.ireturn, 1) := by decide +kernel
theorem dX7_readSum_58 : decode cX7_readSum 58 = .ok (.aload_n 0, 1) := by decide +kernel
theorem dX7_readSum_59 : decode cX7_readSum 59 = .ok (.iload_n 2, 1) := by decide +kernel
theorem dX7_readSum_60 : decode cX7_readSum 60 = .ok (.ineg, 1) := by decide +kernel
theorem dX7_readSum_61 : decode cX7_readSum 61 = .ok (.invokevirtual 43, 3) := by decide +kernel
theorem dX7_readSum_64 : decode cX7_readSum 64 = .ok (.pop, 1) := by decide +kernel
theorem dX7_readSum_65 : decode cX7_readSum 65 = .ok (.aload_n 0, 1) := by decide +kernel
theorem dX7_readSum_66 : decode cX7_readSum 66 = .ok (.invokevirtual 49, 3) := by decide +kernel
theorem dX7_readSum_69 : decode cX7_readSum 69 = .ok (.istore_n 2, 1) := by decide +kernel
theorem dX7_readSum_70 : decode cX7_readSum 70 = .ok (.goto (-55), 3) := by decide +kernel
theorem dX7_readSum_73 : decode cX7_readSum 73 = .ok (.iconst 1, 1) := by decide +kernel
theorem dX7_readSum_74 : decode cX7_readSum 74 = .ok (.ireturn, 1) := by decide +kernel
theorem dX7_readProduct_0 : decode cX7_readProduct 0 = .ok (.aload_n 0, 1) := by decide +kernel
theorem dX7_readProduct_1 : decode cX7_readProduct 1 = .ok (.iload_n 1, 1) := by decide +kernel
theorem dX7_readProduct_2 : decode cX7_readProduct 2 = .ok (.invokevirtual 62, 3) := by decide +kernel
theorem dX7_readProduct_5 : decode cX7_readProduct 5 = .ok (.ifCond .ne 5, 3) := by decide +kernel
theorem dX7_readProduct_8 : decode cX7_readProduct 8 = .ok (.iconst 0, 1) := by decide +kernel
theorem dX7_readProduct_9 : decode cX7_readProduct 9 = .ok (.ireturn, 1) := by decide +kernel
theorem dX7_readProduct_10 : decode cX7_readProduct 10 = .ok (.aload_n 0, 1) := by decide +kernel
theorem dX7_readProduct_11 : decode cX7_readProduct 11 = .ok (.invokevirtual 49, 3) := by decide +kernel
theorem dX7_readProduct_14 : decode cX7_readProduct 14 = .ok (.istore_n 2, 1) := by decide +kernel
theorem dX7_readProduct_15 : decode cX7_readProduct 15 = .ok (.aload_n 0, 1) := by decide +kernel
theorem dX7_readProduct_16 : decode cX7_readProduct 16 = .ok (.getfield 20, 3) := by decide +kernel
theorem dX7_readProduct_19 : decode cX7_readProduct 19 = .ok (.aload_n 0, 1) := by decide +kernel
theorem dX7_readProduct_20 : decode cX7_readProduct 20 = .ok (.getfield 16, 3) := by decide +kernel
theorem dX7_readProduct_23 : decode cX7_readProduct 23 = .ok (.if_icmp .ge 56, 3) := by decide +kernel
theorem dX7_readProduct_26 : decode cX7_readProduct 26 = .ok (.iload_n 2, 1) := by decide +kernel
theorem dX7_readProduct_27 : decode cX7_readProduct 27 = .ok (.bipush 42, 2) := by decide +kernel
theorem dX7_readProduct_29 : decode cX7_readProduct 29 = .ok (.if_icmp .eq 15, 3) := by decide +kernel
theorem dX7_readProduct_32 : decode cX7_readProduct 32 = .ok (.iload_n 2, 1) := by decide +kernel
theorem dX7_readProduct_33 : decode cX7_readProduct 33 = .ok (.bipush 47, 2) := by decide +kernel
theorem dX7_readProduct_35 : decode cX7_readProduct 35 = .ok (.if_icmp .eq 9, 3) := by decide +kernel
theorem dX7_readProduct_38 : decode cX7_readProduct 38 = .ok (.iload_n 2, 1) := by decide +kernel
theorem dX7_readProduct_39 : decode cX7_readProduct 39 = .ok (.bipush 37, 2) := by decide +kernel
theorem dX7_readProduct_41 : decode cX7_readProduct 41 = .ok (.if_icmp .ne 38, 3) := by decide +kernel
theorem dX7_readProduct_44 : decode cX7_readProduct 44 = .ok (.aload_n 0, 1) := by decide +kernel
theorem dX7_readProduct_45 : decode cX7_readProduct 45 = .ok (.dup, 1) := by decide +kernel
theorem dX7_readProduct_46 : decode cX7_readProduct 46 = .ok (.getfield 20, 3) := by decide +kernel
theorem dX7_readProduct_49 : decode cX7_readProduct 49 = .ok (.iconst 1, 1) := by decide +kernel
theorem dX7_readProduct_50 : decode cX7_readProduct 50 = .ok (.iadd, 1) := by decide +kernel
theorem dX7_readProduct_51 : decode cX7_readProduct 51 = .ok (.putfield 20, 3) := by decide +kernel
theorem dX7_readProduct_54 : decode cX7_readProduct 54 = .ok (.aload_n 0, 1) := by decide +kernel
theorem dX7_readProduct_55 : decode cX7_readProduct 55 = .ok (.iload_n 1, 1) := by decide +kernel
theorem dX7_readProduct_56 : decode cX7_readProduct 56 = .ok (.invokevirtual 62, 3) := by decide +kernel
theorem dX7_readProduct_59 : decode cX7_readProduct 59 = .ok (.ifCond .ne 5, 3) := by decide +kernel
theorem dX7_readProduct_62 : decode cX7_readProduct 62 = .ok (.iconst 0, 1) := by decide +kernel
theorem dX7_readProduct_63 : decode cX7_readProduct 63 = .ok (.ireturn, 1) := by decide +kernel
theorem dX7_readProduct_64 : decode cX7_readProduct 64 = .ok (.aload_n 0, 1) := by decide +kernel
theorem dX7_readProduct_65 : decode cX7_readProduct 65 = .ok (.iload_n 2, 1) := by decide +kernel
theorem dX7_readProduct_66 : decode cX7_readProduct 66 = .ok (.ineg, 1) := by decide +kernel
theorem dX7_readProduct_67 : decode cX7_readProduct 67 = .ok (.invokevirtual 43, 3) := by decide +kernel
theorem dX7_readProduct_70 : decode cX7_readProduct 70 = .ok (.pop, 1) := by decide +kernel
theorem dX7_readProduct_71 : decode cX7_readProduct 71 = .ok (.aload_n 0, 1) := by decide +kernel
theorem dX7_readProduct_72 : decode cX7_readProduct 72 = .ok (.invokevirtual 49, 3) := by decide +kernel
theorem dX7_readProduct_75 : decode cX7_readProduct 75 = .ok (.istore_n 2, 1) := by decide +kernel
theorem dX7_readProduct_76 : decode cX7_readProduct 76 = .ok (.goto (-61), 3) := by decide +kernel
theorem dX7_readProduct_79 : decode cX7_readProduct 79 = .ok (.iconst 1, 1) := by decide +kernel
theorem dX7_readProduct_80 : decode cX7_readProduct 80 = .ok (.ireturn, 1) := by decide +kernel
theorem dX7_readOne_0 : decode cX7_readOne 0 = .ok (.aload_n 0, 1) := by decide +kernel
theorem dX7_readOne_1 : decode cX7_readOne 1 = .ok (.invokevirtual 49, 3) := by decide +kernel
theorem dX7_readOne_4 : decode cX7_readOne 4 = .ok (.istore_n 2, 1) := by decide +kernel
theorem dX7_readOne_5 : decode cX7_readOne 5 = .ok (.iload_n 2, 1) := by decide +kernel
theorem dX7_readOne_6 : decode cX7_readOne 6 = .ok (.invokestatic 65, 3) := by decide +kernel
theorem dX7_readOne_9 : decode cX7_readOne 9 = .ok (.ifCond .eq 8, 3) := by decide +kernel
theorem dX7_readOne_12 : decode cX7_readOne 12 = .ok (.aload_n 0, 1) := by decide +kernel
theorem dX7_readOne_13 : decode cX7_readOne 13 = .ok (.invokevirtual 68, 3) := by decide +kernel
theorem dX7_readOne_16 : decode cX7_readOne 16 = .ok (.ireturn, 1) := by decide +kernel
theorem dX7_readOne_17 : decode cX7_readOne 17 = .ok (.iload_n 2, 1) := by decide +kernel
theorem dX7_readOne_18 : decode cX7_readOne 18 = .ok (.invokestatic 71, 3) := by decide +kernel
theorem dX7_readOne_21 : decode cX7_readOne 21 = .ok (.istore_n 3, 1) := by decide +kernel
theorem dX7_readOne_22 : decode cX7_readOne 22 = .ok (.iload_n 3, 1) := by decide +kernel
theorem dX7_readOne_23 : decode cX7_readOne 23 = .ok (.iconst (-1), 1) := by decide +kernel
theorem dX7_readOne_24 : decode cX7_readOne 24 = .ok (.if_icmp .eq 23, 3) := by decide +kernel
theorem dX7_readOne_27 : decode cX7_readOne 27 = .ok (.aload_n 0, 1) := by decide +kernel
theorem dX7_readOne_28 : decode cX7_readOne 28 = .ok (.dup, 1) := by decide +kernel
theorem dX7_readOne_29 : decode cX7_readOne 29 = .ok (.getfield 20, 3) := by decide +kernel
theorem dX7_readOne_32 : decode cX7_readOne 32 = .ok (.iconst 1, 1) := by decide +kernel
theorem dX7_readOne_33 : decode cX7_readOne 33 = .ok (.iadd, 1) := by decide +kernel
theorem dX7_readOne_34 : decode cX7_readOne 34 = .ok (.putfield 20, 3) := by decide +kernel
theorem dX7_readOne_37 : decode cX7_readOne 37 = .ok (.aload_n 0, 1) := by decide +kernel
theorem dX7_readOne_38 : decode cX7_readOne 38 = .ok (.sipush 10000, 3) := by decide +kernel
theorem dX7_readOne_41 : decode cX7_readOne 41 = .ok (.iload_n 3, 1) := by decide +kernel
theorem dX7_readOne_42 : decode cX7_readOne 42 = .ok (.iadd, 1) := by decide +kernel
theorem dX7_readOne_43 : decode cX7_readOne 43 = .ok (.invokevirtual 43, 3) := by decide +kernel
theorem dX7_readOne_46 : decode cX7_readOne 46 = .ok (.ireturn, 1) := by decide +kernel
theorem dX7_readOne_47 : decode cX7_readOne 47 = .ok (.iload_n 1, 1) := by decide +kernel
theorem dX7_readOne_48 : decode cX7_readOne 48 = .ok (.bipush 6, 2) := by decide +kernel
theorem dX7_readOne_50 : decode cX7_readOne 50 = .ok (.if_icmp .ge 21, 3) := by decide +kernel
theorem dX7_readOne_53 : decode cX7_readOne 53 = .ok (.iload_n 2, 1) := by decide +kernel
theorem dX7_readOne_54 : decode cX7_readOne 54 = .ok (.bipush 33, 2) := by decide +kernel
theorem dX7_readOne_56 : decode cX7_readOne 56 = .ok (.if_icmp .eq 17, 3) := by decide +kernel
theorem dX7_readOne_59 : decode cX7_readOne 59 = .ok (.iload_n 2, 1) := by decide +kernel
theorem dX7_readOne_60 : decode cX7_readOne 60 = .ok (.bipush 45, 2) := by decide +kernel
theorem dX7_readOne_62 : decode cX7_readOne 62 = .ok (.if_icmp .eq 11, 3) := by decide +kernel
theorem dX7_readOne_65 : decode cX7_readOne 65 = .ok (.iload_n 2, 1) := by decide +kernel
theorem dX7_readOne_66 : decode cX7_readOne 66 = .ok (.bipush 40, 2) := by decide +kernel
theorem dX7_readOne_68 : decode cX7_readOne 68 = .ok (.if_icmp .eq 5, 3) := by decide +kernel
theorem dX7_readOne_71 : decode cX7_readOne 71 = .ok (.iconst 0, 1) := by decide +kernel
theorem dX7_readOne_72 : decode cX7_readOne 72 = .ok (.ireturn, 1) := by decide +kernel
theorem dX7_readOne_73 : decode cX7_readOne 73 = .ok (.aload_n 0, 1) := by decide +kernel
theorem dX7_readOne_74 : decode cX7_readOne 74 = .ok (.dup, 1) := by decide +kernel
theorem dX7_readOne_75 : decode cX7_readOne 75 = .ok (.getfield 20, 3) := by decide +kernel
theorem dX7_readOne_78 : decode cX7_readOne 78 = .ok (.iconst 1, 1) := by decide +kernel
theorem dX7_readOne_79 : decode cX7_readOne 79 = .ok (.iadd, 1) := by decide +kernel
theorem dX7_readOne_80 : decode cX7_readOne 80 = .ok (.putfield 20, 3) := by decide +kernel
theorem dX7_readOne_83 : decode cX7_readOne 83 = .ok (.iload_n 2, 1) := by decide +kernel
theorem dX7_readOne_84 : decode cX7_readOne 84 = .ok (.bipush 40, 2) := by decide +kernel
theorem dX7_readOne_86 : decode cX7_readOne 86 = .ok (.if_icmp .ne 28, 3) := by decide +kernel
theorem dX7_readOne_89 : decode cX7_readOne 89 = .ok (.aload_n 0, 1) := by decide +kernel
theorem dX7_readOne_90 : decode cX7_readOne 90 = .ok (.iload_n 1, 1) := by decide +kernel
theorem dX7_readOne_91 : decode cX7_readOne 91 = .ok (.iconst 1, 1) := by decide +kernel
theorem dX7_readOne_92 : decode cX7_readOne 92 = .ok (.iadd, 1) := by decide +kernel
theorem dX7_readOne_93 : decode cX7_readOne 93 = .ok (.invokevirtual 40, 3) := by decide +kernel
theorem dX7_readOne_96 : decode cX7_readOne 96 = .ok (.ifCond .eq 16, 3) := by decide +kernel
theorem dX7_readOne_99 : decode cX7_readOne 99 = .ok (.aload_n 0, 1) := by decide +kernel
theorem dX7_readOne_100 : decode cX7_readOne 100 = .ok (.bipush 41, 2) := by decide +kernel
theorem dX7_readOne_102 : decode cX7_readOne 102 = .ok (.invokevirtual 36, 3) := by decide +kernel
theorem dX7_readOne_105 : decode cX7_readOne 105 = .ok (.ifCond .eq 7, 3) := by decide +kernel
theorem dX7_readOne_108 : decode cX7_readOne 108 = .ok (.iconst 1, 1) := by decide +kernel
theorem dX7_readOne_109 : decode cX7_readOne 109 = .ok (.goto 4, 3) := by decide +kernel
theorem dX7_readOne_112 : decode cX7_readOne 112 = .ok (.iconst 0, 1) := by decide +kernel
theorem dX7_readOne_113 : decode cX7_readOne 113 = .ok (.ireturn, 1) := by decide +kernel
theorem dX7_readOne_114 : decode cX7_readOne 114 = .ok (.aload_n 0, 1) := by decide +kernel
theorem dX7_readOne_115 : decode cX7_readOne 115 = .ok (.iload_n 1, 1) := by decide +kernel
theorem dX7_readOne_116 : decode cX7_readOne 116 = .ok (.iconst 1, 1) := by decide +kernel
theorem dX7_readOne_117 : decode cX7_readOne 117 = .ok (.iadd, 1) := by decide +kernel
theorem dX7_readOne_118 : decode cX7_readOne 118 = .ok (.invokevirtual 62, 3) := by decide +kernel
theorem dX7_readOne_121 : decode cX7_readOne 121 = .ok (.ifCond .eq 27, 3) := by decide +kernel
theorem dX7_readOne_124 : decode cX7_readOne 124 = .ok (.aload_n 0, 1) := by decide +kernel
theorem dX7_readOne_125 : decode cX7_readOne 125 = .ok (.iload_n 2, 1) := by decide +kernel
theorem dX7_readOne_126 : decode cX7_readOne 126 = .ok (.bipush 33, 2) := by decide +kernel
theorem dX7_readOne_128 : decode cX7_readOne 128 = .ok (.if_icmp .ne 8, 3) := by decide +kernel
theorem dX7_readOne_131 : decode cX7_readOne 131 = .ok (.bipush (-33), 2) := by decide +kernel
theorem dX7_readOne_133 : decode cX7_readOne 133 = .ok (.goto 5, 3) := by decide +kernel
theorem dX7_readOne_136 : decode cX7_readOne 136 = .ok (.bipush (-126), 2) := by decide +kernel
theorem dX7_readOne_138 : decode cX7_readOne 138 = .ok (.invokevirtual 43, 3) := by decide +kernel
theorem dX7_readOne_141 : decode cX7_readOne 141 = .ok (.ifCond .eq 7, 3) := by decide +kernel
theorem dX7_readOne_144 : decode cX7_readOne 144 = .ok (.iconst 1, 1) := by decide +kernel
theorem dX7_readOne_145 : decode cX7_readOne 145 = .ok (.goto 4, 3) := by decide +kernel
theorem dX7_readOne_148 : decode cX7_readOne 148 = .ok (.iconst 0, 1) := by decide +kernel
theorem dX7_readOne_149 : decode cX7_readOne 149 = .ok (.ireturn, 1) := by decide +kernel
theorem dX7_readNumber_0 : decode cX7_readNumber 0 = .ok (.iconst 0, 1) := by decide +kernel
theorem dX7_readNumber_1 : decode cX7_readNumber 1 = .ok (.istore_n 1, 1) := by decide +kernel
theorem dX7_readNumber_2 : decode cX7_readNumber 2 = .ok (.iconst 0, 1) := by decide +kernel
theorem dX7_readNumber_3 : decode cX7_readNumber 3 = .ok (.istore_n 2, 1) := by decide +kernel
theorem dX7_readNumber_4 : decode cX7_readNumber 4 = .ok (.iload_n 2, 1) := by decide +kernel
theorem dX7_readNumber_5 : decode cX7_readNumber 5 = .ok (.iconst 4, 1) := by decide +kernel
theorem dX7_readNumber_6 : decode cX7_readNumber 6 = .ok (.if_icmp .ge 42, 3) := by decide +kernel
theorem dX7_readNumber_9 : decode cX7_readNumber 9 = .ok (.aload_n 0, 1) := by decide +kernel
theorem dX7_readNumber_10 : decode cX7_readNumber 10 = .ok (.invokevirtual 49, 3) := by decide +kernel
theorem dX7_readNumber_13 : decode cX7_readNumber 13 = .ok (.invokestatic 65, 3) := by decide +kernel
theorem dX7_readNumber_16 : decode cX7_readNumber 16 = .ok (.ifCond .eq 32, 3) := by decide +kernel
theorem dX7_readNumber_19 : decode cX7_readNumber 19 = .ok (.iload_n 1, 1) := by decide +kernel
theorem dX7_readNumber_20 : decode cX7_readNumber 20 = .ok (.bipush 10, 2) := by decide +kernel
theorem dX7_readNumber_22 : decode cX7_readNumber 22 = .ok (.imul, 1) := by decide +kernel
theorem dX7_readNumber_23 : decode cX7_readNumber 23 = .ok (.aload_n 0, 1) := by decide +kernel
theorem dX7_readNumber_24 : decode cX7_readNumber 24 = .ok (.invokevirtual 49, 3) := by decide +kernel
theorem dX7_readNumber_27 : decode cX7_readNumber 27 = .ok (.iadd, 1) := by decide +kernel
theorem dX7_readNumber_28 : decode cX7_readNumber 28 = .ok (.bipush 48, 2) := by decide +kernel
theorem dX7_readNumber_30 : decode cX7_readNumber 30 = .ok (.isub, 1) := by decide +kernel
theorem dX7_readNumber_31 : decode cX7_readNumber 31 = .ok (.istore_n 1, 1) := by decide +kernel
theorem dX7_readNumber_32 : decode cX7_readNumber 32 = .ok (.aload_n 0, 1) := by decide +kernel
theorem dX7_readNumber_33 : decode cX7_readNumber 33 = .ok (.dup, 1) := by decide +kernel
theorem dX7_readNumber_34 : decode cX7_readNumber 34 = .ok (.getfield 20, 3) := by decide +kernel
theorem dX7_readNumber_37 : decode cX7_readNumber 37 = .ok (.iconst 1, 1) := by decide +kernel
theorem dX7_readNumber_38 : decode cX7_readNumber 38 = .ok (.iadd, 1) := by decide +kernel
theorem dX7_readNumber_39 : decode cX7_readNumber 39 = .ok (.putfield 20, 3) := by decide +kernel
theorem dX7_readNumber_42 : decode cX7_readNumber 42 = .ok (.iinc 2 1, 3) := by decide +kernel
theorem dX7_readNumber_45 : decode cX7_readNumber 45 = .ok (.goto (-41), 3) := by decide +kernel
theorem dX7_readNumber_48 : decode cX7_readNumber 48 = .ok (.aload_n 0, 1) := by decide +kernel
theorem dX7_readNumber_49 : decode cX7_readNumber 49 = .ok (.iload_n 1, 1) := by decide +kernel
theorem dX7_readNumber_50 : decode cX7_readNumber 50 = .ok (.invokevirtual 43, 3) := by decide +kernel
theorem dX7_readNumber_53 : decode cX7_readNumber 53 = .ok (.ireturn, 1) := by decide +kernel
theorem dX7_isDigit_0 : decode cX7_isDigit 0 = .ok (.iload_n 0, 1) := by decide +kernel
theorem dX7_isDigit_1 : decode cX7_isDigit 1 = .ok (.bipush 48, 2) := by decide +kernel
theorem dX7_isDigit_3 : decode cX7_isDigit 3 = .ok (.if_icmp .lt 13, 3) := by decide +kernel
theorem dX7_isDigit_6 : decode cX7_isDigit 6 = .ok (.iload_n 0, 1) := by decide +kernel
theorem dX7_isDigit_7 : decode cX7_isDigit 7 = .ok (.bipush 57, 2) := by decide +kernel
theorem dX7_isDigit_9 : decode cX7_isDigit 9 = .ok (.if_icmp .gt 7, 3) := by decide +kernel
theorem dX7_isDigit_12 : decode cX7_isDigit 12 = .ok (.iconst 1, 1) := by decide +kernel
theorem dX7_isDigit_13 : decode cX7_isDigit 13 = .ok (.goto 4, 3) := by decide +kernel
theorem dX7_isDigit_16 : decode cX7_isDigit 16 = .ok (.iconst 0, 1) := by decide +kernel
theorem dX7_isDigit_17 : decode cX7_isDigit 17 = .ok (.ireturn, 1) := by decide +kernel
theorem dX7_sign_0 : decode cX7_sign 0 = .ok (.aload_n 0, 1) := by decide +kernel
theorem dX7_sign_1 : decode cX7_sign 1 = .ok (.getfield 20, 3) := by decide +kernel
theorem dX7_sign_4 : decode cX7_sign 4 = .ok (.aload_n 0, 1) := by decide +kernel
theorem dX7_sign_5 : decode cX7_sign 5 = .ok (.getfield 16, 3) := by decide +kernel
theorem dX7_sign_8 : decode cX7_sign 8 = .ok (.if_icmp .ge 15, 3) := by decide +kernel
theorem dX7_sign_11 : decode cX7_sign 11 = .ok (.aload_n 0, 1) := by decide +kernel
theorem dX7_sign_12 : decode cX7_sign 12 = .ok (.getfield 7, 3) := by decide +kernel
theorem dX7_sign_15 : decode cX7_sign 15 = .ok (.aload_n 0, 1) := by decide +kernel
theorem dX7_sign_16 : decode cX7_sign 16 = .ok (.getfield 20, 3) := by decide +kernel
theorem dX7_sign_19 : decode cX7_sign 19 = .ok (.iaload, 1) := by decide +kernel
theorem dX7_sign_20 : decode cX7_sign 20 = .ok (.goto 4, 3) := by decide +kernel
theorem dX7_sign_23 : decode cX7_sign 23 = .ok (.iconst (-1), 1) := by decide +kernel
theorem dX7_sign_24 : decode cX7_sign 24 = .ok (.ireturn, 1) := by decide +kernel
theorem dX7_passes_0 : decode cX7_passes 0 = .ok (.aload_n 0, 1) := by decide +kernel
theorem dX7_passes_1 : decode cX7_passes 1 = .ok (.invokevirtual 49, 3) := by decide +kernel
theorem dX7_passes_4 : decode cX7_passes 4 = .ok (.iload_n 1, 1) := by decide +kernel
theorem dX7_passes_5 : decode cX7_passes 5 = .ok (.if_icmp .eq 5, 3) := by decide +kernel
theorem dX7_passes_8 : decode cX7_passes 8 = .ok (.iconst 0, 1) := by decide +kernel
theorem dX7_passes_9 : decode cX7_passes 9 = .ok (.ireturn, 1) := by decide +kernel
theorem dX7_passes_10 : decode cX7_passes 10 = .ok (.aload_n 0, 1) := by decide +kernel
theorem dX7_passes_11 : decode cX7_passes 11 = .ok (.dup, 1) := by decide +kernel
theorem dX7_passes_12 : decode cX7_passes 12 = .ok (.getfield 20, 3) := by decide +kernel
theorem dX7_passes_15 : decode cX7_passes 15 = .ok (.iconst 1, 1) := by decide +kernel
theorem dX7_passes_16 : decode cX7_passes 16 = .ok (.iadd, 1) := by decide +kernel
theorem dX7_passes_17 : decode cX7_passes 17 = .ok (.putfield 20, 3) := by decide +kernel
theorem dX7_passes_20 : decode cX7_passes 20 = .ok (.iconst 1, 1) := by decide +kernel
theorem dX7_passes_21 : decode cX7_passes 21 = .ok (.ireturn, 1) := by decide +kernel
theorem dX7_write_0 : decode cX7_write 0 = .ok (.aload_n 0, 1) := by decide +kernel
theorem dX7_write_1 : decode cX7_write 1 = .ok (.getfield 23, 3) := by decide +kernel
theorem dX7_write_4 : decode cX7_write 4 = .ok (.aload_n 0, 1) := by decide +kernel
theorem dX7_write_5 : decode cX7_write 5 = .ok (.getfield 13, 3) := by decide +kernel
theorem dX7_write_8 : decode cX7_write 8 = .ok (.arraylength, 1) := by decide +kernel
theorem dX7_write_9 : decode cX7_write 9 = .ok (.if_icmp .lt 5, 3) := by decide +kernel
theorem dX7_write_12 : decode cX7_write 12 = .ok (.iconst 0, 1) := by decide +kernel
theorem dX7_write_13 : decode cX7_write 13 = .ok (.ireturn, 1) := by decide +kernel
theorem dX7_write_14 : decode cX7_write 14 = .ok (.aload_n 0, 1) := by decide +kernel
theorem dX7_write_15 : decode cX7_write 15 = .ok (.getfield 13, 3) := by decide +kernel
theorem dX7_write_18 : decode cX7_write 18 = .ok (.aload_n 0, 1) := by decide +kernel
theorem dX7_write_19 : decode cX7_write 19 = .ok (.getfield 23, 3) := by decide +kernel
theorem dX7_write_22 : decode cX7_write 22 = .ok (.iload_n 1, 1) := by decide +kernel
theorem dX7_write_23 : decode cX7_write 23 = .ok (.iastore, 1) := by decide +kernel
theorem dX7_write_24 : decode cX7_write 24 = .ok (.aload_n 0, 1) := by decide +kernel
theorem dX7_write_25 : decode cX7_write 25 = .ok (.dup, 1) := by decide +kernel
theorem dX7_write_26 : decode cX7_write 26 = .ok (.getfield 23, 3) := by decide +kernel
theorem dX7_write_29 : decode cX7_write 29 = .ok (.iconst 1, 1) := by decide +kernel
theorem dX7_write_30 : decode cX7_write 30 = .ok (.iadd, 1) := by decide +kernel
theorem dX7_write_31 : decode cX7_write 31 = .ok (.putfield 23, 3) := by decide +kernel
theorem dX7_write_34 : decode cX7_write 34 = .ok (.iconst 1, 1) := by decide +kernel
theorem dX7_write_35 : decode cX7_write 35 = .ok (.ireturn, 1) := by decide +kernel
