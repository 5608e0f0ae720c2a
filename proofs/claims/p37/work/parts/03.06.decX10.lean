theorem dX10_init_0 : decode cX10_init 0 = .ok (.aload_n 0, 1) := by decide +kernel
theorem dX10_init_1 : decode cX10_init 1 = .ok (.invokespecial 3, 3) := by decide +kernel
theorem dX10_init_4 : decode cX10_init 4 = .ok (.aload_n 0, 1) := by decide +kernel
theorem dX10_init_5 : decode cX10_init 5 = .ok (.bipush 6, 2) := by decide +kernel
theorem dX10_init_7 : decode cX10_init 7 = .ok (.newarray .int, 2) := by decide +kernel
theorem dX10_init_9 : decode cX10_init 9 = .ok (.dup, 1) := by decide +kernel
theorem dX10_init_10 : decode cX10_init 10 = .ok (.iconst 0, 1) := by decide +kernel
theorem dX10_init_11 : decode cX10_init 11 = .ok (.iconst (-1), 1) := by decide +kernel
theorem dX10_init_12 : decode cX10_init 12 = .ok (.iastore, 1) := by decide +kernel
theorem dX10_init_13 : decode cX10_init 13 = .ok (.dup, 1) := by decide +kernel
theorem dX10_init_14 : decode cX10_init 14 = .ok (.iconst 1, 1) := by decide +kernel
theorem dX10_init_15 : decode cX10_init 15 = .ok (.iconst (-1), 1) := by decide +kernel
theorem dX10_init_16 : decode cX10_init 16 = .ok (.iastore, 1) := by decide +kernel
theorem dX10_init_17 : decode cX10_init 17 = .ok (.dup, 1) := by decide +kernel
theorem dX10_init_18 : decode cX10_init 18 = .ok (.iconst 2, 1) := by decide +kernel
theorem dX10_init_19 : decode cX10_init 19 = .ok (.iconst (-1), 1) := by decide +kernel
theorem dX10_init_20 : decode cX10_init 20 = .ok (.iastore, 1) := by decide +kernel
theorem dX10_init_21 : decode cX10_init 21 = .ok (.dup, 1) := by decide +kernel
theorem dX10_init_22 : decode cX10_init 22 = .ok (.iconst 3, 1) := by decide +kernel
theorem dX10_init_23 : decode cX10_init 23 = .ok (.iconst (-1), 1) := by decide +kernel
theorem dX10_init_24 : decode cX10_init 24 = .ok (.iastore, 1) := by decide +kernel
theorem dX10_init_25 : decode cX10_init 25 = .ok (.dup, 1) := by decide +kernel
theorem dX10_init_26 : decode cX10_init 26 = .ok (.iconst 4, 1) := by decide +kernel
theorem dX10_init_27 : decode cX10_init 27 = .ok (.iconst (-1), 1) := by decide +kernel
theorem dX10_init_28 : decode cX10_init 28 = .ok (.iastore, 1) := by decide +kernel
theorem dX10_init_29 : decode cX10_init 29 = .ok (.dup, 1) := by decide +kernel
theorem dX10_init_30 : decode cX10_init 30 = .ok (.iconst 5, 1) := by decide +kernel
theorem dX10_init_31 : decode cX10_init 31 = .ok (.iconst (-1), 1) := by decide +kernel
theorem dX10_init_32 : decode cX10_init 32 = .ok (.iastore, 1) := by decide +kernel
theorem dX10_init_33 : decode cX10_init 33 = .ok (.putfield 11, 3) := by decide +kernel
theorem dX10_init_36 : decode cX10_init 36 = .ok (.aload_n 0, 1) := by decide +kernel
theorem dX10_init_37 : decode cX10_init 37 = .ok (.bipush 6, 2) := by decide +kernel
theorem dX10_init_39 : decode cX10_init 39 = .ok (.newarray .int, 2) := by decide +kernel
theorem dX10_init_41 : decode cX10_init 41 = .ok (.putfield 15, 3) := by decide +kernel
theorem dX10_init_44 : decode cX10_init 44 = .ok (.aload_n 0, 1) := by decide +kernel
theorem dX10_init_45 : decode cX10_init 45 = .ok (.bipush 6, 2) := by decide +kernel
theorem dX10_init_47 : decode cX10_init 47 = .ok (.bipush 60, 2) := by decide +kernel
theorem dX10_init_49 : decode cX10_init 49 = .ok (.multianewarray 18 2, 4) := by decide +kernel
theorem dX10_init_53 : decode cX10_init 53 = .ok (.putfield 20, 3) := by decide +kernel
theorem dX10_init_56 : decode cX10_init 56 = .ok (.return_, 1) := by decide +kernel
theorem dX10_isShelf_0 : decode cX10_isShelf 0 = .ok (.iload_n 0, 1) := by decide +kernel
theorem dX10_isShelf_1 : decode cX10_isShelf 1 = .ok (.ifCond .lt 13, 3) := by decide +kernel
theorem dX10_isShelf_4 : decode cX10_isShelf 4 = .ok (.iload_n 0, 1) := by decide +kernel
theorem dX10_isShelf_5 : decode cX10_isShelf 5 = .ok (.bipush 6, 2) := by decide +kernel
theorem dX10_isShelf_7 : decode cX10_isShelf 7 = .ok (.if_icmp .ge 7, 3) := by decide +kernel
theorem dX10_isShelf_10 : decode cX10_isShelf 10 = .ok (.iconst 1, 1) := by decide +kernel
theorem dX10_isShelf_11 : decode cX10_isShelf 11 = .ok (.goto 4, 3) := by decide +kernel
theorem dX10_isShelf_14 : decode cX10_isShelf 14 = .ok (.iconst 0, 1) := by decide +kernel
theorem dX10_isShelf_15 : decode cX10_isShelf 15 = .ok (.ireturn, 1) := by decide +kernel
theorem dX10_isEmpty_0 : decode cX10_isEmpty 0 = .ok (.aload_n 0, 1) := by decide +kernel
theorem dX10_isEmpty_1 : decode cX10_isEmpty 1 = .ok (.getfield 11, 3) := by decide +kernel
theorem dX10_isEmpty_4 : decode cX10_isEmpty 4 = .ok (.iload_n 1, 1) := by decide +kernel
theorem dX10_isEmpty_5 : decode cX10_isEmpty 5 = .ok (.iaload, 1) := by decide +kernel
theorem dX10_isEmpty_6 : decode cX10_isEmpty 6 = .ok (.iconst (-1), 1) := by decide +kernel
theorem dX10_isEmpty_7 : decode cX10_isEmpty 7 = .ok (.if_icmp .ne 7, 3) := by decide +kernel
theorem dX10_isEmpty_10 : decode cX10_isEmpty 10 = .ok (.iconst 1, 1) := by decide +kernel
theorem dX10_isEmpty_11 : decode cX10_isEmpty 11 = .ok (.goto 4, 3) := by decide +kernel
theorem dX10_isEmpty_14 : decode cX10_isEmpty 14 = .ok (.iconst 0, 1) := by decide +kernel
theorem dX10_isEmpty_15 : decode cX10_isEmpty 15 = .ok (.ireturn, 1) := by decide +kernel
theorem dX10_holdsRow_0 : decode cX10_holdsRow 0 = .ok (.aload_n 0, 1) := by decide +kernel
theorem dX10_holdsRow_1 : decode cX10_holdsRow 1 = .ok (.getfield 11, 3) := by decide +kernel
theorem dX10_holdsRow_4 : decode cX10_holdsRow 4 = .ok (.iload_n 1, 1) := by decide +kernel
theorem dX10_holdsRow_5 : decode cX10_holdsRow 5 = .ok (.iaload, 1) := by decide +kernel
theorem dX10_holdsRow_6 : decode cX10_holdsRow 6 = .ok (.iload_n 2, 1) := by decide +kernel
theorem dX10_holdsRow_7 : decode cX10_holdsRow 7 = .ok (.if_icmp .ne 7, 3) := by decide +kernel
theorem dX10_holdsRow_10 : decode cX10_holdsRow 10 = .ok (.iconst 1, 1) := by decide +kernel
theorem dX10_holdsRow_11 : decode cX10_holdsRow 11 = .ok (.goto 4, 3) := by decide +kernel
theorem dX10_holdsRow_14 : decode cX10_holdsRow 14 = .ok (.iconst 0, 1) := by decide +kernel
theorem dX10_holdsRow_15 : decode cX10_holdsRow 15 = .ok (.ireturn, 1) := by decide +kernel
theorem dX10_bodyOn_0 : decode cX10_bodyOn 0 = .ok (.aload_n 0, 1) := by decide +kernel
theorem dX10_bodyOn_1 : decode cX10_bodyOn 1 = .ok (.getfield 11, 3) := by decide +kernel
theorem dX10_bodyOn_4 : decode cX10_bodyOn 4 = .ok (.iload_n 1, 1) := by decide +kernel
theorem dX10_bodyOn_5 : decode cX10_bodyOn 5 = .ok (.iaload, 1) := by decide +kernel
theorem dX10_bodyOn_6 : decode cX10_bodyOn 6 = .ok (.iconst 5, 1) := by decide +kernel
theorem dX10_bodyOn_7 : decode cX10_bodyOn 7 = .ok (.if_icmp .ne 12, 3) := by decide +kernel
theorem dX10_bodyOn_10 : decode cX10_bodyOn 10 = .ok (.aload_n 0, 1) := by decide +kernel
theorem dX10_bodyOn_11 : decode cX10_bodyOn 11 = .ok (.getfield 15, 3) := by decide +kernel
theorem dX10_bodyOn_14 : decode cX10_bodyOn 14 = .ok (.iload_n 1, 1) := by decide +kernel
theorem dX10_bodyOn_15 : decode cX10_bodyOn 15 = .ok (.iaload, 1) := by decide +kernel
theorem dX10_bodyOn_16 : decode cX10_bodyOn 16 = .ok (.goto 4, 3) := by decide +kernel
theorem dX10_bodyOn_19 : decode cX10_bodyOn 19 = .ok (.iconst (-1), 1) := by decide +kernel
theorem dX10_bodyOn_20 : decode cX10_bodyOn 20 = .ok (.ireturn, 1) := by decide +kernel
theorem dX10_sizeOf_0 : decode cX10_sizeOf 0 = .ok (.aload_n 0, 1) := by decide +kernel
theorem dX10_sizeOf_1 : decode cX10_sizeOf 1 = .ok (.iload_n 1, 1) := by decide +kernel
theorem dX10_sizeOf_2 : decode cX10_sizeOf 2 = .ok (.invokevirtual 23, 3) := by decide +kernel
theorem dX10_sizeOf_5 : decode cX10_sizeOf 5 = .ok (.ifCond .eq 12, 3) := by decide +kernel
theorem dX10_sizeOf_8 : decode cX10_sizeOf 8 = .ok (.aload_n 0, 1) := by decide +kernel
theorem dX10_sizeOf_9 : decode cX10_sizeOf 9 = .ok (.getfield 15, 3) := by decide +kernel
theorem dX10_sizeOf_12 : decode cX10_sizeOf 12 = .ok (.iload_n 1, 1) := by decide +kernel
theorem dX10_sizeOf_13 : decode cX10_sizeOf 13 = .ok (.iaload, 1) := by decide +kernel
theorem dX10_sizeOf_14 : decode cX10_sizeOf 14 = .ok (.goto 4, 3) := by decide +kernel
theorem dX10_sizeOf_17 : decode cX10_sizeOf 17 = .ok (.iconst 0, 1) := by decide +kernel
theorem dX10_sizeOf_18 : decode cX10_sizeOf 18 = .ok (.ireturn, 1) := by decide +kernel
theorem dX10_isRow_0 : decode cX10_isRow 0 = .ok (.aload_n 0, 1) := by decide +kernel
theorem dX10_isRow_1 : decode cX10_isRow 1 = .ok (.getfield 11, 3) := by decide +kernel
theorem dX10_isRow_4 : decode cX10_isRow 4 = .ok (.iload_n 1, 1) := by decide +kernel
theorem dX10_isRow_5 : decode cX10_isRow 5 = .ok (.iaload, 1) := by decide +kernel
theorem dX10_isRow_6 : decode cX10_isRow 6 = .ok (.iconst (-1), 1) := by decide +kernel
theorem dX10_isRow_7 : decode cX10_isRow 7 = .ok (.if_icmp .eq 17, 3) := by decide +kernel
theorem dX10_isRow_10 : decode cX10_isRow 10 = .ok (.aload_n 0, 1) := by decide +kernel
theorem dX10_isRow_11 : decode cX10_isRow 11 = .ok (.getfield 11, 3) := by decide +kernel
theorem dX10_isRow_14 : decode cX10_isRow 14 = .ok (.iload_n 1, 1) := by decide +kernel
theorem dX10_isRow_15 : decode cX10_isRow 15 = .ok (.iaload, 1) := by decide +kernel
theorem dX10_isRow_16 : decode cX10_isRow 16 = .ok (.iconst 5, 1) := by decide +kernel
theorem dX10_isRow_17 : decode cX10_isRow 17 = .ok (.if_icmp .eq 7, 3) := by decide +kernel
theorem dX10_isRow_20 : decode cX10_isRow 20 = .ok (.iconst 1, 1) := by decide +kernel
theorem dX10_isRow_21 : decode cX10_isRow 21 = .ok (.goto 4, 3) := by decide +kernel
theorem dX10_isRow_24 : decode cX10_isRow 24 = .ok (.iconst 0, 1) := by decide +kernel
theorem dX10_isRow_25 : decode cX10_isRow 25 = .ok (.ireturn, 1) := by decide +kernel
theorem dX10_lay_0 : decode cX10_lay 0 = .ok (.aload_n 0, 1) := by decide +kernel
theorem dX10_lay_1 : decode cX10_lay 1 = .ok (.getfield 11, 3) := by decide +kernel
theorem dX10_lay_4 : decode cX10_lay 4 = .ok (.iload_n 1, 1) := by decide +kernel
theorem dX10_lay_5 : decode cX10_lay 5 = .ok (.iload_n 2, 1) := by decide +kernel
theorem dX10_lay_6 : decode cX10_lay 6 = .ok (.iastore, 1) := by decide +kernel
theorem dX10_lay_7 : decode cX10_lay 7 = .ok (.aload_n 0, 1) := by decide +kernel
theorem dX10_lay_8 : decode cX10_lay 8 = .ok (.getfield 15, 3) := by decide +kernel
theorem dX10_lay_11 : decode cX10_lay 11 = .ok (.iload_n 1, 1) := by decide +kernel
theorem dX10_lay_12 : decode cX10_lay 12 = .ok (.iload_n 3, 1) := by decide +kernel
theorem dX10_lay_13 : decode cX10_lay 13 = .ok (.iastore, 1) := by decide +kernel
theorem dX10_lay_14 : decode cX10_lay 14 = .ok (.aload_n 0, 1) := by decide +kernel
theorem dX10_lay_15 : decode cX10_lay 15 = .ok (.getfield 20, 3) := by decide +kernel
theorem dX10_lay_18 : decode cX10_lay 18 = .ok (.iload_n 1, 1) := by decide +kernel
theorem dX10_lay_19 : decode cX10_lay 19 = .ok (.aaload, 1) := by decide +kernel
theorem dX10_lay_20 : decode cX10_lay 20 = .ok (.lconst 0, 1) := by decide +kernel
theorem dX10_lay_21 : decode cX10_lay 21 = .ok (.invokestatic 27, 3) := by decide +kernel
theorem dX10_lay_24 : decode cX10_lay 24 = .ok (.return_, 1) := by decide +kernel
theorem dX10_faultOfBytes_0 : decode cX10_faultOfBytes 0 = .ok (.aload_n 0, 1) := by decide +kernel
theorem dX10_faultOfBytes_1 : decode cX10_faultOfBytes 1 = .ok (.iload_n 1, 1) := by decide +kernel
theorem dX10_faultOfBytes_2 : decode cX10_faultOfBytes 2 = .ok (.invokevirtual 33, 3) := by decide +kernel
theorem dX10_faultOfBytes_5 : decode cX10_faultOfBytes 5 = .ok (.ifCond .ne 11, 3) := by decide +kernel
theorem dX10_faultOfBytes_8 : decode cX10_faultOfBytes 8 = .ok (.aload_n 0, 1) := by decide +kernel
theorem dX10_faultOfBytes_9 : decode cX10_faultOfBytes 9 = .ok (.iload_n 2, 1) := by decide +kernel
theorem dX10_faultOfBytes_10 : decode cX10_faultOfBytes 10 = .ok (.invokevirtual 33, 3) := by decide +kernel
theorem dX10_faultOfBytes_13 : decode cX10_faultOfBytes 13 = .ok (.ifCond .eq 6, 3) := by decide +kernel
theorem dX10_faultOfBytes_16 : decode cX10_faultOfBytes 16 = .ok (.bipush (-11), 2) := by decide +kernel
theorem dX10_faultOfBytes_18 : decode cX10_faultOfBytes 18 = .ok (.ireturn, 1) := by decide +kernel
theorem dX10_faultOfBytes_19 : decode cX10_faultOfBytes 19 = .ok (.aload_n 0, 1) := by decide +kernel
theorem dX10_faultOfBytes_20 : decode cX10_faultOfBytes 20 = .ok (.iload_n 1, 1) := by decide +kernel
theorem dX10_faultOfBytes_21 : decode cX10_faultOfBytes 21 = .ok (.iconst 0, 1) := by decide +kernel
theorem dX10_faultOfBytes_22 : decode cX10_faultOfBytes 22 = .ok (.invokevirtual 36, 3) := by decide +kernel
theorem dX10_faultOfBytes_25 : decode cX10_faultOfBytes 25 = .ok (.ifCond .eq 16, 3) := by decide +kernel
theorem dX10_faultOfBytes_28 : decode cX10_faultOfBytes 28 = .ok (.aload_n 0, 1) := by decide +kernel
theorem dX10_faultOfBytes_29 : decode cX10_faultOfBytes 29 = .ok (.iload_n 2, 1) := by decide +kernel
theorem dX10_faultOfBytes_30 : decode cX10_faultOfBytes 30 = .ok (.iconst 0, 1) := by decide +kernel
theorem dX10_faultOfBytes_31 : decode cX10_faultOfBytes 31 = .ok (.invokevirtual 36, 3) := by decide +kernel
theorem dX10_faultOfBytes_34 : decode cX10_faultOfBytes 34 = .ok (.ifCond .eq 7, 3) := by decide +kernel
theorem dX10_faultOfBytes_37 : decode cX10_faultOfBytes 37 = .ok (.iconst 0, 1) := by decide +kernel
theorem dX10_faultOfBytes_38 : decode cX10_faultOfBytes 38 = .ok (.goto 5, 3) := by decide +kernel
theorem dX10_faultOfBytes_41 : decode cX10_faultOfBytes 41 = .ok (.bipush (-12), 2) := by decide +kernel
theorem dX10_faultOfBytes_43 : decode cX10_faultOfBytes 43 = .ok (.ireturn, 1) := by decide +kernel
theorem dX10_faultOfPlace_0 : decode cX10_faultOfPlace 0 = .ok (.iload_n 1, 1) := by decide +kernel
theorem dX10_faultOfPlace_1 : decode cX10_faultOfPlace 1 = .ok (.invokestatic 40, 3) := by decide +kernel
theorem dX10_faultOfPlace_4 : decode cX10_faultOfPlace 4 = .ok (.ifCond .ne 5, 3) := by decide +kernel
theorem dX10_faultOfPlace_7 : decode cX10_faultOfPlace 7 = .ok (.iconst (-1), 1) := by decide +kernel
theorem dX10_faultOfPlace_8 : decode cX10_faultOfPlace 8 = .ok (.ireturn, 1) := by decide +kernel
theorem dX10_faultOfPlace_9 : decode cX10_faultOfPlace 9 = .ok (.aload_n 0, 1) := by decide +kernel
theorem dX10_faultOfPlace_10 : decode cX10_faultOfPlace 10 = .ok (.iload_n 1, 1) := by decide +kernel
theorem dX10_faultOfPlace_11 : decode cX10_faultOfPlace 11 = .ok (.invokevirtual 33, 3) := by decide +kernel
theorem dX10_faultOfPlace_14 : decode cX10_faultOfPlace 14 = .ok (.ifCond .eq 6, 3) := by decide +kernel
theorem dX10_faultOfPlace_17 : decode cX10_faultOfPlace 17 = .ok (.bipush (-11), 2) := by decide +kernel
theorem dX10_faultOfPlace_19 : decode cX10_faultOfPlace 19 = .ok (.ireturn, 1) := by decide +kernel
theorem dX10_faultOfPlace_20 : decode cX10_faultOfPlace 20 = .ok (.aload_n 0, 1) := by decide +kernel
theorem dX10_faultOfPlace_21 : decode cX10_faultOfPlace 21 = .ok (.iload_n 1, 1) := by decide +kernel
theorem dX10_faultOfPlace_22 : decode cX10_faultOfPlace 22 = .ok (.invokevirtual 23, 3) := by decide +kernel
theorem dX10_faultOfPlace_25 : decode cX10_faultOfPlace 25 = .ok (.ifCond .ne 6, 3) := by decide +kernel
theorem dX10_faultOfPlace_28 : decode cX10_faultOfPlace 28 = .ok (.bipush (-12), 2) := by decide +kernel
theorem dX10_faultOfPlace_30 : decode cX10_faultOfPlace 30 = .ok (.ireturn, 1) := by decide +kernel
theorem dX10_faultOfPlace_31 : decode cX10_faultOfPlace 31 = .ok (.iload_n 2, 1) := by decide +kernel
theorem dX10_faultOfPlace_32 : decode cX10_faultOfPlace 32 = .ok (.ifCond .lt 17, 3) := by decide +kernel
theorem dX10_faultOfPlace_35 : decode cX10_faultOfPlace 35 = .ok (.iload_n 2, 1) := by decide +kernel
theorem dX10_faultOfPlace_36 : decode cX10_faultOfPlace 36 = .ok (.aload_n 0, 1) := by decide +kernel
theorem dX10_faultOfPlace_37 : decode cX10_faultOfPlace 37 = .ok (.getfield 15, 3) := by decide +kernel
theorem dX10_faultOfPlace_40 : decode cX10_faultOfPlace 40 = .ok (.iload_n 1, 1) := by decide +kernel
theorem dX10_faultOfPlace_41 : decode cX10_faultOfPlace 41 = .ok (.iaload, 1) := by decide +kernel
theorem dX10_faultOfPlace_42 : decode cX10_faultOfPlace 42 = .ok (.if_icmp .ge 7, 3) := by decide +kernel
theorem dX10_faultOfPlace_45 : decode cX10_faultOfPlace 45 = .ok (.iconst 0, 1) := by decide +kernel
theorem dX10_faultOfPlace_46 : decode cX10_faultOfPlace 46 = .ok (.goto 5, 3) := by decide +kernel
theorem dX10_faultOfPlace_49 : decode cX10_faultOfPlace 49 = .ok (.bipush (-13), 2) := by decide +kernel
theorem dX10_faultOfPlace_51 : decode cX10_faultOfPlace 51 = .ok (.ireturn, 1) := by decide +kernel
theorem dX10_get_0 : decode cX10_get 0 = .ok (.aload_n 0, 1) := by decide +kernel
theorem dX10_get_1 : decode cX10_get 1 = .ok (.getfield 20, 3) := by decide +kernel
theorem dX10_get_4 : decode cX10_get 4 = .ok (.iload_n 1, 1) := by decide +kernel
theorem dX10_get_5 : decode cX10_get 5 = .ok (.aaload, 1) := by decide +kernel
theorem dX10_get_6 : decode cX10_get 6 = .ok (.iload_n 2, 1) := by decide +kernel
theorem dX10_get_7 : decode cX10_get 7 = .ok (.laload, 1) := by decide +kernel
theorem dX10_get_8 : decode cX10_get 8 = .ok (.lreturn, 1) := by decide +kernel
theorem dX10_set_0 : decode cX10_set 0 = .ok (.aload_n 0, 1) := by decide +kernel
theorem dX10_set_1 : decode cX10_set 1 = .ok (.getfield 20, 3) := by decide +kernel
theorem dX10_set_4 : decode cX10_set 4 = .ok (.iload_n 1, 1) := by decide +kernel
theorem dX10_set_5 : decode cX10_set 5 = .ok (.aaload, 1) := by decide +kernel
theorem dX10_set_6 : decode cX10_set 6 = .ok (.iload_n 2, 1) := by decide +kernel
theorem dX10_set_7 : decode cX10_set 7 = .ok (.aload_n 0, 1) := by decide +kernel
theorem dX10_set_8 : decode cX10_set 8 = .ok (.getfield 11, 3) := by decide +kernel
theorem dX10_set_11 : decode cX10_set 11 = .ok (.iload_n 1, 1) := by decide +kernel
theorem dX10_set_12 : decode cX10_set 12 = .ok (.iaload, 1) := by decide +kernel
theorem dX10_set_13 : decode cX10_set 13 = .ok (.lload_n 3, 1) := by decide +kernel
theorem dX10_set_14 : decode cX10_set 14 = .ok (.invokestatic 43, 3) := by decide +kernel
theorem dX10_set_17 : decode cX10_set 17 = .ok (.lastore, 1) := by decide +kernel
theorem dX10_set_18 : decode cX10_set 18 = .ok (.return_, 1) := by decide +kernel
theorem dX10_lowest_0 : decode cX10_lowest 0 = .ok (.iload_n 0, 1) := by decide +kernel
theorem dX10_lowest_1 : decode cX10_lowest 1 = .ok (.tableswitch 61 0 4 #[35, 40, 45, 61, 49], 35) := by decide +kernel
theorem dX10_lowest_36 : decode cX10_lowest 36 = .ok (.lload_n 1, 1) := by decide +kernel
theorem dX10_lowest_37 : decode cX10_lowest 37 = .ok (.l2i, 1) := by decide +kernel
theorem dX10_lowest_38 : decode cX10_lowest 38 = .ok (.i2b, 1) := by decide +kernel
theorem dX10_lowest_39 : decode cX10_lowest 39 = .ok (.i2l, 1) := by decide +kernel
theorem dX10_lowest_40 : decode cX10_lowest 40 = .ok (.lreturn, 1) := by decide +kernel
theorem dX10_lowest_41 : decode cX10_lowest 41 = .ok (.lload_n 1, 1) := by decide +kernel
theorem dX10_lowest_42 : decode cX10_lowest 42 = .ok (.l2i, 1) := by decide +kernel
theorem dX10_lowest_43 : decode cX10_lowest 43 = .ok (.i2s, 1) := by decide +kernel
theorem dX10_lowest_44 : decode cX10_lowest 44 = .ok (.i2l, 1) := by decide +kernel
theorem dX10_lowest_45 : decode cX10_lowest 45 = .ok (.lreturn, 1) := by decide +kernel
theorem dX10_lowest_46 : decode cX10_lowest 46 = .ok (.lload_n 1, 1) := by decide +kernel
theorem dX10_lowest_47 : decode cX10_lowest 47 = .ok (.l2i, 1) := by decide +kernel
theorem dX10_lowest_48 : decode cX10_lowest 48 = .ok (.i2l, 1) := by decide +kernel
theorem dX10_lowest_49 : decode cX10_lowest 49 = .ok (.lreturn, 1) := by decide +kernel
theorem dX10_lowest_50 : decode cX10_lowest 50 = .ok (.lload_n 1, 1) := by decide +kernel
theorem dX10_lowest_51 : decode cX10_lowest 51 = .ok (.lconst 0, 1) := by decide +kernel
theorem dX10_lowest_52 : decode cX10_lowest 52 = .ok (.lcmp, 1) := by decide +kernel
theorem dX10_lowest_53 : decode cX10_lowest 53 = .ok (.ifCond .eq 7, 3) := by decide +kernel
theorem dX10_lowest_56 : decode cX10_lowest 56 = .ok (.lconst 1, 1) := by decide +kernel
theorem dX10_lowest_57 : decode cX10_lowest 57 = .ok (.goto 4, 3) := by decide +kernel
theorem dX10_lowest_60 : decode cX10_lowest 60 = .ok (.lconst 0, 1) := by decide +kernel
theorem dX10_lowest_61 : decode cX10_lowest 61 = .ok (.lreturn, 1) := by decide +kernel
theorem dX10_lowest_62 : decode cX10_lowest 62 = .ok (.lload_n 1, 1) := by decide +kernel
theorem dX10_lowest_63 : decode cX10_lowest 63 = .ok (.lreturn, 1) := by decide +kernel
theorem dX10_copy_0 : decode cX10_copy 0 = .ok (.aload_n 0, 1) := by decide +kernel
theorem dX10_copy_1 : decode cX10_copy 1 = .ok (.iload_n 1, 1) := by decide +kernel
theorem dX10_copy_2 : decode cX10_copy 2 = .ok (.invokevirtual 33, 3) := by decide +kernel
theorem dX10_copy_5 : decode cX10_copy 5 = .ok (.ifCond .ne 11, 3) := by decide +kernel
theorem dX10_copy_8 : decode cX10_copy 8 = .ok (.aload_n 0, 1) := by decide +kernel
theorem dX10_copy_9 : decode cX10_copy 9 = .ok (.iload_n 3, 1) := by decide +kernel
theorem dX10_copy_10 : decode cX10_copy 10 = .ok (.invokevirtual 33, 3) := by decide +kernel
theorem dX10_copy_13 : decode cX10_copy 13 = .ok (.ifCond .eq 6, 3) := by decide +kernel
theorem dX10_copy_16 : decode cX10_copy 16 = .ok (.bipush (-11), 2) := by decide +kernel
theorem dX10_copy_18 : decode cX10_copy 18 = .ok (.ireturn, 1) := by decide +kernel
theorem dX10_copy_19 : decode cX10_copy 19 = .ok (.aload_n 0, 1) := by decide +kernel
theorem dX10_copy_20 : decode cX10_copy 20 = .ok (.iload_n 1, 1) := by decide +kernel
theorem dX10_copy_21 : decode cX10_copy 21 = .ok (.invokevirtual 23, 3) := by decide +kernel
theorem dX10_copy_24 : decode cX10_copy 24 = .ok (.ifCond .eq 18, 3) := by decide +kernel
theorem dX10_copy_27 : decode cX10_copy 27 = .ok (.aload_n 0, 1) := by decide +kernel
theorem dX10_copy_28 : decode cX10_copy 28 = .ok (.getfield 11, 3) := by decide +kernel
theorem dX10_copy_31 : decode cX10_copy 31 = .ok (.iload_n 1, 1) := by decide +kernel
theorem dX10_copy_32 : decode cX10_copy 32 = .ok (.iaload, 1) := by decide +kernel
theorem dX10_copy_33 : decode cX10_copy 33 = .ok (.aload_n 0, 1) := by decide +kernel
theorem dX10_copy_34 : decode cX10_copy 34 = .ok (.getfield 11, 3) := by decide +kernel
theorem dX10_copy_37 : decode cX10_copy 37 = .ok (.iload_n 3, 1) := by decide +kernel
theorem dX10_copy_38 : decode cX10_copy 38 = .ok (.iaload, 1) := by decide +kernel
theorem dX10_copy_39 : decode cX10_copy 39 = .ok (.if_icmp .eq 6, 3) := by decide +kernel
theorem dX10_copy_42 : decode cX10_copy 42 = .ok (.bipush (-12), 2) := by decide +kernel
theorem dX10_copy_44 : decode cX10_copy 44 = .ok (.ireturn, 1) := by decide +kernel
theorem dX10_copy_45 : decode cX10_copy 45 = .ok (.iload_n 2, 1) := by decide +kernel
theorem dX10_copy_46 : decode cX10_copy 46 = .ok (.ifCond .lt 48, 3) := by decide +kernel
theorem dX10_copy_49 : decode cX10_copy 49 = .ok (.iload 4, 2) := by decide +kernel
theorem dX10_copy_51 : decode cX10_copy 51 = .ok (.ifCond .lt 43, 3) := by decide +kernel
theorem dX10_copy_54 : decode cX10_copy 54 = .ok (.iload 5, 2) := by decide +kernel
theorem dX10_copy_56 : decode cX10_copy 56 = .ok (.ifCond .lt 38, 3) := by decide +kernel
theorem dX10_copy_59 : decode cX10_copy 59 = .ok (.iload_n 2, 1) := by decide +kernel
theorem dX10_copy_60 : decode cX10_copy 60 = .ok (.i2l, 1) := by decide +kernel
theorem dX10_copy_61 : decode cX10_copy 61 = .ok (.iload 5, 2) := by decide +kernel
theorem dX10_copy_63 : decode cX10_copy 63 = .ok (.i2l, 1) := by decide +kernel
theorem dX10_copy_64 : decode cX10_copy 64 = .ok (.ladd, 1) := by decide +kernel
theorem dX10_copy_65 : decode cX10_copy 65 = .ok (.aload_n 0, 1) := by decide +kernel
theorem dX10_copy_66 : decode cX10_copy 66 = .ok (.getfield 15, 3) := by decide +kernel
theorem dX10_copy_69 : decode cX10_copy 69 = .ok (.iload_n 1, 1) := by decide +kernel
theorem dX10_copy_70 : decode cX10_copy 70 = .ok (.iaload, 1) := by decide +kernel
theorem dX10_copy_71 : decode cX10_copy 71 = .ok (.i2l, 1) := by decide +kernel
theorem dX10_copy_72 : decode cX10_copy 72 = .ok (.lcmp, 1) := by decide +kernel
theorem dX10_copy_73 : decode cX10_copy 73 = .ok (.ifCond .gt 21, 3) := by decide +kernel
theorem dX10_copy_76 : decode cX10_copy 76 = .ok (.iload 4, 2) := by decide +kernel
theorem dX10_copy_78 : decode cX10_copy 78 = .ok (.i2l, 1) := by decide +kernel
theorem dX10_copy_79 : decode cX10_copy 79 = .ok (.iload 5, 2) := by decide +kernel
theorem dX10_copy_81 : decode cX10_copy 81 = .ok (.i2l, 1) := by decide +kernel
theorem dX10_copy_82 : decode cX10_copy 82 = .ok (.ladd, 1) := by decide +kernel
theorem dX10_copy_83 : decode cX10_copy 83 = .ok (.aload_n 0, 1) := by decide +kernel
theorem dX10_copy_84 : decode cX10_copy 84 = .ok (.getfield 15, 3) := by decide +kernel
theorem dX10_copy_87 : decode cX10_copy 87 = .ok (.iload_n 3, 1) := by decide +kernel
theorem dX10_copy_88 : decode cX10_copy 88 = .ok (.iaload, 1) := by decide +kernel
theorem dX10_copy_89 : decode cX10_copy 89 = .ok (.i2l, 1) := by decide +kernel
theorem dX10_copy_90 : decode cX10_copy 90 = .ok (.lcmp, 1) := by decide +kernel
theorem dX10_copy_91 : decode cX10_copy 91 = .ok (.ifCond .le 6, 3) := by decide +kernel
theorem dX10_copy_94 : decode cX10_copy 94 = .ok (.bipush (-13), 2) := by decide +kernel
theorem dX10_copy_96 : decode cX10_copy 96 = .ok (.ireturn, 1) := by decide +kernel
theorem dX10_copy_97 : decode cX10_copy 97 = .ok (.aload_n 0, 1) := by decide +kernel
theorem dX10_copy_98 : decode cX10_copy 98 = .ok (.getfield 20, 3) := by decide +kernel
theorem dX10_copy_101 : decode cX10_copy 101 = .ok (.iload_n 1, 1) := by decide +kernel
theorem dX10_copy_102 : decode cX10_copy 102 = .ok (.aaload, 1) := by decide +kernel
theorem dX10_copy_103 : decode cX10_copy 103 = .ok (.iload_n 2, 1) := by decide +kernel
theorem dX10_copy_104 : decode cX10_copy 104 = .ok (.aload_n 0, 1) := by decide +kernel
theorem dX10_copy_105 : decode cX10_copy 105 = .ok (.getfield 20, 3) := by decide +kernel
theorem dX10_copy_108 : decode cX10_copy 108 = .ok (.iload_n 3, 1) := by decide +kernel
theorem dX10_copy_109 : decode cX10_copy 109 = .ok (.aaload, 1) := by decide +kernel
theorem dX10_copy_110 : decode cX10_copy 110 = .ok (.iload 4, 2) := by decide +kernel
theorem dX10_copy_112 : decode cX10_copy 112 = .ok (.iload 5, 2) := by decide +kernel
theorem dX10_copy_114 : decode cX10_copy 114 = .ok (.invokestatic 47, 3) := by decide +kernel
theorem dX10_copy_117 : decode cX10_copy 117 = .ok (.iload 5, 2) := by decide +kernel
theorem dX10_copy_119 : decode cX10_copy 119 = .ok (.ireturn, 1) := by decide +kernel
