theorem dX6_init_0 : decode cX6_init 0 = .ok (.aload_n 0, 1) := by decide +kernel
theorem dX6_init_1 : decode cX6_init 1 = .ok (.invokespecial 1, 3) := by decide +kernel
theorem dX6_init_4 : decode cX6_init 4 = .ok (.aload_n 0, 1) := by decide +kernel
theorem dX6_init_5 : decode cX6_init 5 = .ok (.sipush 302, 3) := by decide +kernel
theorem dX6_init_8 : decode cX6_init 8 = .ok (.newarray .int, 2) := by decide +kernel
theorem dX6_init_10 : decode cX6_init 10 = .ok (.putfield 7, 3) := by decide +kernel
theorem dX6_init_13 : decode cX6_init 13 = .ok (.aload_n 0, 1) := by decide +kernel
theorem dX6_init_14 : decode cX6_init 14 = .ok (.sipush 302, 3) := by decide +kernel
theorem dX6_init_17 : decode cX6_init 17 = .ok (.newarray .int, 2) := by decide +kernel
theorem dX6_init_19 : decode cX6_init 19 = .ok (.putfield 13, 3) := by decide +kernel
theorem dX6_init_22 : decode cX6_init 22 = .ok (.aload_n 0, 1) := by decide +kernel
theorem dX6_init_23 : decode cX6_init 23 = .ok (.sipush 1812, 3) := by decide +kernel
theorem dX6_init_26 : decode cX6_init 26 = .ok (.newarray .int, 2) := by decide +kernel
theorem dX6_init_28 : decode cX6_init 28 = .ok (.putfield 16, 3) := by decide +kernel
theorem dX6_init_31 : decode cX6_init 31 = .ok (.aload_n 0, 1) := by decide +kernel
theorem dX6_init_32 : decode cX6_init 32 = .ok (.sipush 604, 3) := by decide +kernel
theorem dX6_init_35 : decode cX6_init 35 = .ok (.newarray .int, 2) := by decide +kernel
theorem dX6_init_37 : decode cX6_init 37 = .ok (.putfield 19, 3) := by decide +kernel
theorem dX6_init_40 : decode cX6_init 40 = .ok (.aload_n 0, 1) := by decide +kernel
theorem dX6_init_41 : decode cX6_init 41 = .ok (.bipush 80, 2) := by decide +kernel
theorem dX6_init_43 : decode cX6_init 43 = .ok (.newarray .int, 2) := by decide +kernel
theorem dX6_init_45 : decode cX6_init 45 = .ok (.putfield 22, 3) := by decide +kernel
theorem dX6_init_48 : decode cX6_init 48 = .ok (.aload_n 0, 1) := by decide +kernel
theorem dX6_init_49 : decode cX6_init 49 = .ok (.getfield 7, 3) := by decide +kernel
theorem dX6_init_52 : decode cX6_init 52 = .ok (.iconst 0, 1) := by decide +kernel
theorem dX6_init_53 : decode cX6_init 53 = .ok (.iconst 1, 1) := by decide +kernel
theorem dX6_init_54 : decode cX6_init 54 = .ok (.iastore, 1) := by decide +kernel
theorem dX6_init_55 : decode cX6_init 55 = .ok (.aload_n 0, 1) := by decide +kernel
theorem dX6_init_56 : decode cX6_init 56 = .ok (.getfield 7, 3) := by decide +kernel
theorem dX6_init_59 : decode cX6_init 59 = .ok (.iconst 1, 1) := by decide +kernel
theorem dX6_init_60 : decode cX6_init 60 = .ok (.bipush 20, 2) := by decide +kernel
theorem dX6_init_62 : decode cX6_init 62 = .ok (.iastore, 1) := by decide +kernel
theorem dX6_init_63 : decode cX6_init 63 = .ok (.aload_n 0, 1) := by decide +kernel
theorem dX6_init_64 : decode cX6_init 64 = .ok (.getfield 7, 3) := by decide +kernel
theorem dX6_init_67 : decode cX6_init 67 = .ok (.iconst 2, 1) := by decide +kernel
theorem dX6_init_68 : decode cX6_init 68 = .ok (.iconst 3, 1) := by decide +kernel
theorem dX6_init_69 : decode cX6_init 69 = .ok (.iastore, 1) := by decide +kernel
theorem dX6_init_70 : decode cX6_init 70 = .ok (.aload_n 0, 1) := by decide +kernel
theorem dX6_init_71 : decode cX6_init 71 = .ok (.getfield 7, 3) := by decide +kernel
theorem dX6_init_74 : decode cX6_init 74 = .ok (.iconst 3, 1) := by decide +kernel
theorem dX6_init_75 : decode cX6_init 75 = .ok (.iconst 2, 1) := by decide +kernel
theorem dX6_init_76 : decode cX6_init 76 = .ok (.iastore, 1) := by decide +kernel
theorem dX6_init_77 : decode cX6_init 77 = .ok (.aload_n 0, 1) := by decide +kernel
theorem dX6_init_78 : decode cX6_init 78 = .ok (.getfield 7, 3) := by decide +kernel
theorem dX6_init_81 : decode cX6_init 81 = .ok (.iconst 4, 1) := by decide +kernel
theorem dX6_init_82 : decode cX6_init 82 = .ok (.bipush 120, 2) := by decide +kernel
theorem dX6_init_84 : decode cX6_init 84 = .ok (.iastore, 1) := by decide +kernel
theorem dX6_init_85 : decode cX6_init 85 = .ok (.aload_n 0, 1) := by decide +kernel
theorem dX6_init_86 : decode cX6_init 86 = .ok (.getfield 7, 3) := by decide +kernel
theorem dX6_init_89 : decode cX6_init 89 = .ok (.sipush 295, 3) := by decide +kernel
theorem dX6_init_92 : decode cX6_init 92 = .ok (.bipush (-6), 2) := by decide +kernel
theorem dX6_init_94 : decode cX6_init 94 = .ok (.iastore, 1) := by decide +kernel
theorem dX6_init_95 : decode cX6_init 95 = .ok (.return_, 1) := by decide +kernel
theorem dX6_in_0 : decode cX6_in 0 = .ok (.iload_n 0, 1) := by decide +kernel
theorem dX6_in_1 : decode cX6_in 1 = .ok (.iload_n 1, 1) := by decide +kernel
theorem dX6_in_2 : decode cX6_in 2 = .ok (.if_icmp .lt 12, 3) := by decide +kernel
theorem dX6_in_5 : decode cX6_in 5 = .ok (.iload_n 0, 1) := by decide +kernel
theorem dX6_in_6 : decode cX6_in 6 = .ok (.iload_n 2, 1) := by decide +kernel
theorem dX6_in_7 : decode cX6_in 7 = .ok (.if_icmp .gt 7, 3) := by decide +kernel
theorem dX6_in_10 : decode cX6_in 10 = .ok (.iconst 1, 1) := by decide +kernel
theorem dX6_in_11 : decode cX6_in 11 = .ok (.goto 4, 3) := by decide +kernel
theorem dX6_in_14 : decode cX6_in 14 = .ok (.iconst 0, 1) := by decide +kernel
theorem dX6_in_15 : decode cX6_in 15 = .ok (.ireturn, 1) := by decide +kernel
theorem dX6_isBoard_0 : decode cX6_isBoard 0 = .ok (.iload_n 1, 1) := by decide +kernel
theorem dX6_isBoard_1 : decode cX6_isBoard 1 = .ok (.iconst 0, 1) := by decide +kernel
theorem dX6_isBoard_2 : decode cX6_isBoard 2 = .ok (.aload_n 0, 1) := by decide +kernel
theorem dX6_isBoard_3 : decode cX6_isBoard 3 = .ok (.getfield 7, 3) := by decide +kernel
theorem dX6_isBoard_6 : decode cX6_isBoard 6 = .ok (.iconst 5, 1) := by decide +kernel
theorem dX6_isBoard_7 : decode cX6_isBoard 7 = .ok (.iaload, 1) := by decide +kernel
theorem dX6_isBoard_8 : decode cX6_isBoard 8 = .ok (.iconst 1, 1) := by decide +kernel
theorem dX6_isBoard_9 : decode cX6_isBoard 9 = .ok (.isub, 1) := by decide +kernel
theorem dX6_isBoard_10 : decode cX6_isBoard 10 = .ok (.invokestatic 25, 3) := by decide +kernel
theorem dX6_isBoard_13 : decode cX6_isBoard 13 = .ok (.ireturn, 1) := by decide +kernel
theorem dX6_isSlot_0 : decode cX6_isSlot 0 = .ok (.iload_n 0, 1) := by decide +kernel
theorem dX6_isSlot_1 : decode cX6_isSlot 1 = .ok (.iconst 0, 1) := by decide +kernel
theorem dX6_isSlot_2 : decode cX6_isSlot 2 = .ok (.iconst 4, 1) := by decide +kernel
theorem dX6_isSlot_3 : decode cX6_isSlot 3 = .ok (.invokestatic 25, 3) := by decide +kernel
theorem dX6_isSlot_6 : decode cX6_isSlot 6 = .ok (.ireturn, 1) := by decide +kernel
theorem dX6_ofBoard_0 : decode cX6_ofBoard 0 = .ok (.bipush 6, 2) := by decide +kernel
theorem dX6_ofBoard_2 : decode cX6_ofBoard 2 = .ok (.bipush 11, 2) := by decide +kernel
theorem dX6_ofBoard_4 : decode cX6_ofBoard 4 = .ok (.iload_n 0, 1) := by decide +kernel
theorem dX6_ofBoard_5 : decode cX6_ofBoard 5 = .ok (.imul, 1) := by decide +kernel
theorem dX6_ofBoard_6 : decode cX6_ofBoard 6 = .ok (.iadd, 1) := by decide +kernel
theorem dX6_ofBoard_7 : decode cX6_ofBoard 7 = .ok (.iload_n 1, 1) := by decide +kernel
theorem dX6_ofBoard_8 : decode cX6_ofBoard 8 = .ok (.iadd, 1) := by decide +kernel
theorem dX6_ofBoard_9 : decode cX6_ofBoard 9 = .ok (.ireturn, 1) := by decide +kernel
theorem dX6_fromOf_0 : decode cX6_fromOf 0 = .ok (.aload_n 0, 1) := by decide +kernel
theorem dX6_fromOf_1 : decode cX6_fromOf 1 = .ok (.getfield 7, 3) := by decide +kernel
theorem dX6_fromOf_4 : decode cX6_fromOf 4 = .ok (.bipush 95, 2) := by decide +kernel
theorem dX6_fromOf_6 : decode cX6_fromOf 6 = .ok (.iload_n 1, 1) := by decide +kernel
theorem dX6_fromOf_7 : decode cX6_fromOf 7 = .ok (.iadd, 1) := by decide +kernel
theorem dX6_fromOf_8 : decode cX6_fromOf 8 = .ok (.iaload, 1) := by decide +kernel
theorem dX6_fromOf_9 : decode cX6_fromOf 9 = .ok (.bipush 8, 2) := by decide +kernel
theorem dX6_fromOf_11 : decode cX6_fromOf 11 = .ok (.irem, 1) := by decide +kernel
theorem dX6_fromOf_12 : decode cX6_fromOf 12 = .ok (.ireturn, 1) := by decide +kernel
theorem dX6_toOf_0 : decode cX6_toOf 0 = .ok (.aload_n 0, 1) := by decide +kernel
theorem dX6_toOf_1 : decode cX6_toOf 1 = .ok (.getfield 7, 3) := by decide +kernel
theorem dX6_toOf_4 : decode cX6_toOf 4 = .ok (.bipush 95, 2) := by decide +kernel
theorem dX6_toOf_6 : decode cX6_toOf 6 = .ok (.iload_n 1, 1) := by decide +kernel
theorem dX6_toOf_7 : decode cX6_toOf 7 = .ok (.iadd, 1) := by decide +kernel
theorem dX6_toOf_8 : decode cX6_toOf 8 = .ok (.iaload, 1) := by decide +kernel
theorem dX6_toOf_9 : decode cX6_toOf 9 = .ok (.bipush 8, 2) := by decide +kernel
theorem dX6_toOf_11 : decode cX6_toOf 11 = .ok (.idiv, 1) := by decide +kernel
theorem dX6_toOf_12 : decode cX6_toOf 12 = .ok (.bipush 8, 2) := by decide +kernel
theorem dX6_toOf_14 : decode cX6_toOf 14 = .ok (.irem, 1) := by decide +kernel
theorem dX6_toOf_15 : decode cX6_toOf 15 = .ok (.ireturn, 1) := by decide +kernel
theorem dX6_stateOf_0 : decode cX6_stateOf 0 = .ok (.aload_n 0, 1) := by decide +kernel
theorem dX6_stateOf_1 : decode cX6_stateOf 1 = .ok (.getfield 7, 3) := by decide +kernel
theorem dX6_stateOf_4 : decode cX6_stateOf 4 = .ok (.bipush 95, 2) := by decide +kernel
theorem dX6_stateOf_6 : decode cX6_stateOf 6 = .ok (.iload_n 1, 1) := by decide +kernel
theorem dX6_stateOf_7 : decode cX6_stateOf 7 = .ok (.iadd, 1) := by decide +kernel
theorem dX6_stateOf_8 : decode cX6_stateOf 8 = .ok (.iaload, 1) := by decide +kernel
theorem dX6_stateOf_9 : decode cX6_stateOf 9 = .ok (.bipush 64, 2) := by decide +kernel
theorem dX6_stateOf_11 : decode cX6_stateOf 11 = .ok (.idiv, 1) := by decide +kernel
theorem dX6_stateOf_12 : decode cX6_stateOf 12 = .ok (.iconst 4, 1) := by decide +kernel
theorem dX6_stateOf_13 : decode cX6_stateOf 13 = .ok (.irem, 1) := by decide +kernel
theorem dX6_stateOf_14 : decode cX6_stateOf 14 = .ok (.ireturn, 1) := by decide +kernel
theorem dX6_becomes_0 : decode cX6_becomes 0 = .ok (.aload_n 0, 1) := by decide +kernel
theorem dX6_becomes_1 : decode cX6_becomes 1 = .ok (.getfield 7, 3) := by decide +kernel
theorem dX6_becomes_4 : decode cX6_becomes 4 = .ok (.bipush 95, 2) := by decide +kernel
theorem dX6_becomes_6 : decode cX6_becomes 6 = .ok (.iload_n 1, 1) := by decide +kernel
theorem dX6_becomes_7 : decode cX6_becomes 7 = .ok (.iadd, 1) := by decide +kernel
theorem dX6_becomes_8 : decode cX6_becomes 8 = .ok (.dup2, 1) := by decide +kernel
theorem dX6_becomes_9 : decode cX6_becomes 9 = .ok (.iaload, 1) := by decide +kernel
theorem dX6_becomes_10 : decode cX6_becomes 10 = .ok (.bipush 64, 2) := by decide +kernel
theorem dX6_becomes_12 : decode cX6_becomes 12 = .ok (.iload_n 2, 1) := by decide +kernel
theorem dX6_becomes_13 : decode cX6_becomes 13 = .ok (.aload_n 0, 1) := by decide +kernel
theorem dX6_becomes_14 : decode cX6_becomes 14 = .ok (.iload_n 1, 1) := by decide +kernel
theorem dX6_becomes_15 : decode cX6_becomes 15 = .ok (.invokevirtual 29, 3) := by decide +kernel
theorem dX6_becomes_18 : decode cX6_becomes 18 = .ok (.isub, 1) := by decide +kernel
theorem dX6_becomes_19 : decode cX6_becomes 19 = .ok (.imul, 1) := by decide +kernel
theorem dX6_becomes_20 : decode cX6_becomes 20 = .ok (.iadd, 1) := by decide +kernel
theorem dX6_becomes_21 : decode cX6_becomes 21 = .ok (.iastore, 1) := by decide +kernel
theorem dX6_becomes_22 : decode cX6_becomes 22 = .ok (.return_, 1) := by decide +kernel
theorem dX6_isOf_0 : decode cX6_isOf 0 = .ok (.aload_n 0, 1) := by decide +kernel
theorem dX6_isOf_1 : decode cX6_isOf 1 = .ok (.iload_n 1, 1) := by decide +kernel
theorem dX6_isOf_2 : decode cX6_isOf 2 = .ok (.invokevirtual 33, 3) := by decide +kernel
theorem dX6_isOf_5 : decode cX6_isOf 5 = .ok (.iload_n 2, 1) := by decide +kernel
theorem dX6_isOf_6 : decode cX6_isOf 6 = .ok (.if_icmp .eq 12, 3) := by decide +kernel
theorem dX6_isOf_9 : decode cX6_isOf 9 = .ok (.aload_n 0, 1) := by decide +kernel
theorem dX6_isOf_10 : decode cX6_isOf 10 = .ok (.iload_n 1, 1) := by decide +kernel
theorem dX6_isOf_11 : decode cX6_isOf 11 = .ok (.invokevirtual 36, 3) := by decide +kernel
theorem dX6_isOf_14 : decode cX6_isOf 14 = .ok (.iload_n 2, 1) := by decide +kernel
theorem dX6_isOf_15 : decode cX6_isOf 15 = .ok (.if_icmp .ne 7, 3) := by decide +kernel
theorem dX6_isOf_18 : decode cX6_isOf 18 = .ok (.iconst 1, 1) := by decide +kernel
theorem dX6_isOf_19 : decode cX6_isOf 19 = .ok (.goto 4, 3) := by decide +kernel
theorem dX6_isOf_22 : decode cX6_isOf 22 = .ok (.iconst 0, 1) := by decide +kernel
theorem dX6_isOf_23 : decode cX6_isOf 23 = .ok (.ireturn, 1) := by decide +kernel
theorem dX6_isGoing_0 : decode cX6_isGoing 0 = .ok (.aload_n 0, 1) := by decide +kernel
theorem dX6_isGoing_1 : decode cX6_isGoing 1 = .ok (.iload_n 1, 1) := by decide +kernel
theorem dX6_isGoing_2 : decode cX6_isGoing 2 = .ok (.invokevirtual 29, 3) := by decide +kernel
theorem dX6_isGoing_5 : decode cX6_isGoing 5 = .ok (.iconst 2, 1) := by decide +kernel
theorem dX6_isGoing_6 : decode cX6_isGoing 6 = .ok (.if_icmp .ge 7, 3) := by decide +kernel
theorem dX6_isGoing_9 : decode cX6_isGoing 9 = .ok (.iconst 1, 1) := by decide +kernel
theorem dX6_isGoing_10 : decode cX6_isGoing 10 = .ok (.goto 4, 3) := by decide +kernel
theorem dX6_isGoing_13 : decode cX6_isGoing 13 = .ok (.iconst 0, 1) := by decide +kernel
theorem dX6_isGoing_14 : decode cX6_isGoing 14 = .ok (.ireturn, 1) := by decide +kernel
theorem dX6_isLost_0 : decode cX6_isLost 0 = .ok (.aload_n 0, 1) := by decide +kernel
theorem dX6_isLost_1 : decode cX6_isLost 1 = .ok (.getfield 7, 3) := by decide +kernel
theorem dX6_isLost_4 : decode cX6_isLost 4 = .ok (.sipush 295, 3) := by decide +kernel
theorem dX6_isLost_7 : decode cX6_isLost 7 = .ok (.aload_n 0, 1) := by decide +kernel
theorem dX6_isLost_8 : decode cX6_isLost 8 = .ok (.getfield 7, 3) := by decide +kernel
theorem dX6_isLost_11 : decode cX6_isLost 11 = .ok (.sipush 295, 3) := by decide +kernel
theorem dX6_isLost_14 : decode cX6_isLost 14 = .ok (.iaload, 1) := by decide +kernel
theorem dX6_isLost_15 : decode cX6_isLost 15 = .ok (.iload_n 1, 1) := by decide +kernel
theorem dX6_isLost_16 : decode cX6_isLost 16 = .ok (.if_icmp .ne 8, 3) := by decide +kernel
theorem dX6_isLost_19 : decode cX6_isLost 19 = .ok (.bipush (-6), 2) := by decide +kernel
theorem dX6_isLost_21 : decode cX6_isLost 21 = .ok (.goto 11, 3) := by decide +kernel
theorem dX6_isLost_24 : decode cX6_isLost 24 = .ok (.aload_n 0, 1) := by decide +kernel
theorem dX6_isLost_25 : decode cX6_isLost 25 = .ok (.getfield 7, 3) := by decide +kernel
theorem dX6_isLost_28 : decode cX6_isLost 28 = .ok (.sipush 295, 3) := by decide +kernel
theorem dX6_isLost_31 : decode cX6_isLost 31 = .ok (.iaload, 1) := by decide +kernel
theorem dX6_isLost_32 : decode cX6_isLost 32 = .ok (.iastore, 1) := by decide +kernel
theorem dX6_isLost_33 : decode cX6_isLost 33 = .ok (.aload_n 0, 1) := by decide +kernel
theorem dX6_isLost_34 : decode cX6_isLost 34 = .ok (.iload_n 1, 1) := by decide +kernel
theorem dX6_isLost_35 : decode cX6_isLost 35 = .ok (.iconst 3, 1) := by decide +kernel
theorem dX6_isLost_36 : decode cX6_isLost 36 = .ok (.invokevirtual 39, 3) := by decide +kernel
theorem dX6_isLost_39 : decode cX6_isLost 39 = .ok (.aload_n 0, 1) := by decide +kernel
theorem dX6_isLost_40 : decode cX6_isLost 40 = .ok (.getfield 7, 3) := by decide +kernel
theorem dX6_isLost_43 : decode cX6_isLost 43 = .ok (.sipush 301, 3) := by decide +kernel
theorem dX6_isLost_46 : decode cX6_isLost 46 = .ok (.dup2, 1) := by decide +kernel
theorem dX6_isLost_47 : decode cX6_isLost 47 = .ok (.iaload, 1) := by decide +kernel
theorem dX6_isLost_48 : decode cX6_isLost 48 = .ok (.iconst 1, 1) := by decide +kernel
theorem dX6_isLost_49 : decode cX6_isLost 49 = .ok (.iadd, 1) := by decide +kernel
theorem dX6_isLost_50 : decode cX6_isLost 50 = .ok (.iastore, 1) := by decide +kernel
theorem dX6_isLost_51 : decode cX6_isLost 51 = .ok (.return_, 1) := by decide +kernel
theorem dX6_going_0 : decode cX6_going 0 = .ok (.iconst 0, 1) := by decide +kernel
theorem dX6_going_1 : decode cX6_going 1 = .ok (.istore_n 2, 1) := by decide +kernel
theorem dX6_going_2 : decode cX6_going 2 = .ok (.iconst 0, 1) := by decide +kernel
theorem dX6_going_3 : decode cX6_going 3 = .ok (.istore_n 3, 1) := by decide +kernel
theorem dX6_going_4 : decode cX6_going 4 = .ok (.iload_n 3, 1) := by decide +kernel
theorem dX6_going_5 : decode cX6_going 5 = .ok (.aload_n 0, 1) := by decide +kernel
theorem dX6_going_6 : decode cX6_going 6 = .ok (.getfield 7, 3) := by decide +kernel
theorem dX6_going_9 : decode cX6_going 9 = .ok (.bipush 94, 2) := by decide +kernel
theorem dX6_going_11 : decode cX6_going 11 = .ok (.iaload, 1) := by decide +kernel
theorem dX6_going_12 : decode cX6_going 12 = .ok (.if_icmp .ge 40, 3) := by decide +kernel
theorem dX6_going_15 : decode cX6_going 15 = .ok (.iload_n 2, 1) := by decide +kernel
theorem dX6_going_16 : decode cX6_going 16 = .ok (.aload_n 0, 1) := by decide +kernel
theorem dX6_going_17 : decode cX6_going 17 = .ok (.iload_n 3, 1) := by decide +kernel
theorem dX6_going_18 : decode cX6_going 18 = .ok (.invokevirtual 43, 3) := by decide +kernel
theorem dX6_going_21 : decode cX6_going 21 = .ok (.ifCond .eq 22, 3) := by decide +kernel
theorem dX6_going_24 : decode cX6_going 24 = .ok (.iload_n 1, 1) := by decide +kernel
theorem dX6_going_25 : decode cX6_going 25 = .ok (.bipush (-6), 2) := by decide +kernel
theorem dX6_going_27 : decode cX6_going 27 = .ok (.if_icmp .eq 12, 3) := by decide +kernel
theorem dX6_going_30 : decode cX6_going 30 = .ok (.aload_n 0, 1) := by decide +kernel
theorem dX6_going_31 : decode cX6_going 31 = .ok (.iload_n 3, 1) := by decide +kernel
theorem dX6_going_32 : decode cX6_going 32 = .ok (.iload_n 1, 1) := by decide +kernel
theorem dX6_going_33 : decode cX6_going 33 = .ok (.invokevirtual 47, 3) := by decide +kernel
theorem dX6_going_36 : decode cX6_going 36 = .ok (.ifCond .eq 7, 3) := by decide +kernel
theorem dX6_going_39 : decode cX6_going 39 = .ok (.iconst 1, 1) := by decide +kernel
theorem dX6_going_40 : decode cX6_going 40 = .ok (.goto 4, 3) := by decide +kernel
theorem dX6_going_43 : decode cX6_going 43 = .ok (.iconst 0, 1) := by decide +kernel
theorem dX6_going_44 : decode cX6_going 44 = .ok (.iadd, 1) := by decide +kernel
theorem dX6_going_45 : decode cX6_going 45 = .ok (.istore_n 2, 1) := by decide +kernel
theorem dX6_going_46 : decode cX6_going 46 = .ok (.iinc 3 1, 3) := by decide +kernel
theorem dX6_going_49 : decode cX6_going 49 = .ok (.goto (-45), 3) := by decide +kernel
theorem dX6_going_52 : decode cX6_going 52 = .ok (.iload_n 2, 1) := by decide +kernel
theorem dX6_going_53 : decode cX6_going 53 = .ok (.ireturn, 1) := by decide +kernel
theorem dX6_putAside_0 : decode cX6_putAside 0 = .ok (.iconst 0, 1) := by decide +kernel
theorem dX6_putAside_1 : decode cX6_putAside 1 = .ok (.istore_n 1, 1) := by decide +kernel
theorem dX6_putAside_2 : decode cX6_putAside 2 = .ok (.iload_n 1, 1) := by decide +kernel
theorem dX6_putAside_3 : decode cX6_putAside 3 = .ok (.sipush 302, 3) := by decide +kernel
theorem dX6_putAside_6 : decode cX6_putAside 6 = .ok (.if_icmp .ge 21, 3) := by decide +kernel
theorem dX6_putAside_9 : decode cX6_putAside 9 = .ok (.aload_n 0, 1) := by decide +kernel
theorem dX6_putAside_10 : decode cX6_putAside 10 = .ok (.getfield 13, 3) := by decide +kernel
theorem dX6_putAside_13 : decode cX6_putAside 13 = .ok (.iload_n 1, 1) := by decide +kernel
theorem dX6_putAside_14 : decode cX6_putAside 14 = .ok (.aload_n 0, 1) := by decide +kernel
theorem dX6_putAside_15 : decode cX6_putAside 15 = .ok (.getfield 7, 3) := by decide +kernel
theorem dX6_putAside_18 : decode cX6_putAside 18 = .ok (.iload_n 1, 1) := by decide +kernel
theorem dX6_putAside_19 : decode cX6_putAside 19 = .ok (.iaload, 1) := by decide +kernel
theorem dX6_putAside_20 : decode cX6_putAside 20 = .ok (.iastore, 1) := by decide +kernel
theorem dX6_putAside_21 : decode cX6_putAside 21 = .ok (.iinc 1 1, 3) := by decide +kernel
theorem dX6_putAside_24 : decode cX6_putAside 24 = .ok (.goto (-22), 3) := by decide +kernel
theorem dX6_putAside_27 : decode cX6_putAside 27 = .ok (.return_, 1) := by decide +kernel
theorem dX6_putBack_0 : decode cX6_putBack 0 = .ok (.iconst 0, 1) := by decide +kernel
theorem dX6_putBack_1 : decode cX6_putBack 1 = .ok (.istore_n 1, 1) := by decide +kernel
theorem dX6_putBack_2 : decode cX6_putBack 2 = .ok (.iload_n 1, 1) := by decide +kernel
theorem dX6_putBack_3 : decode cX6_putBack 3 = .ok (.sipush 302, 3) := by decide +kernel
theorem dX6_putBack_6 : decode cX6_putBack 6 = .ok (.if_icmp .ge 21, 3) := by decide +kernel
theorem dX6_putBack_9 : decode cX6_putBack 9 = .ok (.aload_n 0, 1) := by decide +kernel
theorem dX6_putBack_10 : decode cX6_putBack 10 = .ok (.getfield 7, 3) := by decide +kernel
theorem dX6_putBack_13 : decode cX6_putBack 13 = .ok (.iload_n 1, 1) := by decide +kernel
theorem dX6_putBack_14 : decode cX6_putBack 14 = .ok (.aload_n 0, 1) := by decide +kernel
theorem dX6_putBack_15 : decode cX6_putBack 15 = .ok (.getfield 13, 3) := by decide +kernel
theorem dX6_putBack_18 : decode cX6_putBack 18 = .ok (.iload_n 1, 1) := by decide +kernel
theorem dX6_putBack_19 : decode cX6_putBack 19 = .ok (.iaload, 1) := by decide +kernel
theorem dX6_putBack_20 : decode cX6_putBack 20 = .ok (.iastore, 1) := by decide +kernel
theorem dX6_putBack_21 : decode cX6_putBack 21 = .ok (.iinc 1 1, 3) := by decide +kernel
theorem dX6_putBack_24 : decode cX6_putBack 24 = .ok (.goto (-22), 3) := by decide +kernel
theorem dX6_putBack_27 : decode cX6_putBack 27 = .ok (.return_, 1) := by decide +kernel
theorem dX6_record_0 : decode cX6_record 0 = .ok (.aload_n 0, 1) := by decide +kernel
theorem dX6_record_1 : decode cX6_record 1 = .ok (.getfield 51, 3) := by decide +kernel
theorem dX6_record_4 : decode cX6_record 4 = .ok (.bipush 6, 2) := by decide +kernel
theorem dX6_record_6 : decode cX6_record 6 = .ok (.if_icmp .ne 44, 3) := by decide +kernel
theorem dX6_record_9 : decode cX6_record 9 = .ok (.iconst 0, 1) := by decide +kernel
theorem dX6_record_10 : decode cX6_record 10 = .ok (.istore_n 1, 1) := by decide +kernel
theorem dX6_record_11 : decode cX6_record 11 = .ok (.iload_n 1, 1) := by decide +kernel
theorem dX6_record_12 : decode cX6_record 12 = .ok (.sipush 1510, 3) := by decide +kernel
theorem dX6_record_15 : decode cX6_record 15 = .ok (.if_icmp .ge 25, 3) := by decide +kernel
theorem dX6_record_18 : decode cX6_record 18 = .ok (.aload_n 0, 1) := by decide +kernel
theorem dX6_record_19 : decode cX6_record 19 = .ok (.getfield 16, 3) := by decide +kernel
theorem dX6_record_22 : decode cX6_record 22 = .ok (.iload_n 1, 1) := by decide +kernel
theorem dX6_record_23 : decode cX6_record 23 = .ok (.aload_n 0, 1) := by decide +kernel
theorem dX6_record_24 : decode cX6_record 24 = .ok (.getfield 16, 3) := by decide +kernel
theorem dX6_record_27 : decode cX6_record 27 = .ok (.iload_n 1, 1) := by decide +kernel
theorem dX6_record_28 : decode cX6_record 28 = .ok (.sipush 302, 3) := by decide +kernel
theorem dX6_record_31 : decode cX6_record 31 = .ok (.iadd, 1) := by decide +kernel
theorem dX6_record_32 : decode cX6_record 32 = .ok (.iaload, 1) := by decide +kernel
theorem dX6_record_33 : decode cX6_record 33 = .ok (.iastore, 1) := by decide +kernel
theorem dX6_record_34 : decode cX6_record 34 = .ok (.iinc 1 1, 3) := by decide +kernel
theorem dX6_record_37 : decode cX6_record 37 = .ok (.goto (-26), 3) := by decide +kernel
theorem dX6_record_40 : decode cX6_record 40 = .ok (.aload_n 0, 1) := by decide +kernel
theorem dX6_record_41 : decode cX6_record 41 = .ok (.dup, 1) := by decide +kernel
theorem dX6_record_42 : decode cX6_record 42 = .ok (.getfield 51, 3) := by decide +kernel
theorem dX6_record_45 : decode cX6_record 45 = .ok (.iconst 1, 1) := by decide +kernel
theorem dX6_record_46 : decode cX6_record 46 = .ok (.isub, 1) := by decide +kernel
theorem dX6_record_47 : decode cX6_record 47 = .ok (.putfield 51, 3) := by decide +kernel
theorem dX6_record_50 : decode cX6_record 50 = .ok (.iconst 0, 1) := by decide +kernel
theorem dX6_record_51 : decode cX6_record 51 = .ok (.istore_n 1, 1) := by decide +kernel
theorem dX6_record_52 : decode cX6_record 52 = .ok (.iload_n 1, 1) := by decide +kernel
theorem dX6_record_53 : decode cX6_record 53 = .ok (.sipush 302, 3) := by decide +kernel
theorem dX6_record_56 : decode cX6_record 56 = .ok (.if_icmp .ge 30, 3) := by decide +kernel
theorem dX6_record_59 : decode cX6_record 59 = .ok (.aload_n 0, 1) := by decide +kernel
theorem dX6_record_60 : decode cX6_record 60 = .ok (.getfield 16, 3) := by decide +kernel
theorem dX6_record_63 : decode cX6_record 63 = .ok (.sipush 302, 3) := by decide +kernel
theorem dX6_record_66 : decode cX6_record 66 = .ok (.aload_n 0, 1) := by decide +kernel
theorem dX6_record_67 : decode cX6_record 67 = .ok (.getfield 51, 3) := by decide +kernel
theorem dX6_record_70 : decode cX6_record 70 = .ok (.imul, 1) := by decide +kernel
theorem dX6_record_71 : decode cX6_record 71 = .ok (.iload_n 1, 1) := by decide +kernel
theorem dX6_record_72 : decode cX6_record 72 = .ok (.iadd, 1) := by decide +kernel
theorem dX6_record_73 : decode cX6_record 73 = .ok (.aload_n 0, 1) := by decide +kernel
theorem dX6_record_74 : decode cX6_record 74 = .ok (.getfield 13, 3) := by decide +kernel
theorem dX6_record_77 : decode cX6_record 77 = .ok (.iload_n 1, 1) := by decide +kernel
theorem dX6_record_78 : decode cX6_record 78 = .ok (.iaload, 1) := by decide +kernel
theorem dX6_record_79 : decode cX6_record 79 = .ok (.iastore, 1) := by decide +kernel
theorem dX6_record_80 : decode cX6_record 80 = .ok (.iinc 1 1, 3) := by decide +kernel
theorem dX6_record_83 : decode cX6_record 83 = .ok (.goto (-31), 3) := by decide +kernel
theorem dX6_record_86 : decode cX6_record 86 = .ok (.aload_n 0, 1) := by decide +kernel
theorem dX6_record_87 : decode cX6_record 87 = .ok (.dup, 1) := by decide +kernel
theorem dX6_record_88 : decode cX6_record 88 = .ok (.getfield 51, 3) := by decide +kernel
theorem dX6_record_91 : decode cX6_record 91 = .ok (.iconst 1, 1) := by decide +kernel
theorem dX6_record_92 : decode cX6_record 92 = .ok (.iadd, 1) := by decide +kernel
theorem dX6_record_93 : decode cX6_record 93 = .ok (.putfield 51, 3) := by decide +kernel
theorem dX6_record_96 : decode cX6_record 96 = .ok (.return_, 1) := by decide +kernel
theorem dX6_changed_0 : decode cX6_changed 0 = .ok (.iload_n 1, 1) := by decide +kernel
theorem dX6_changed_1 : decode cX6_changed 1 = .ok (.ifCond .lt 7, 3) := by decide +kernel
theorem dX6_changed_4 : decode cX6_changed 4 = .ok (.aload_n 0, 1) := by decide +kernel
theorem dX6_changed_5 : decode cX6_changed 5 = .ok (.invokevirtual 55, 3) := by decide +kernel
theorem dX6_changed_8 : decode cX6_changed 8 = .ok (.iload_n 1, 1) := by decide +kernel
theorem dX6_changed_9 : decode cX6_changed 9 = .ok (.ireturn, 1) := by decide +kernel
theorem dX6_boardIn_0 : decode cX6_boardIn 0 = .ok (.bipush (-6), 2) := by decide +kernel
theorem dX6_boardIn_2 : decode cX6_boardIn 2 = .ok (.istore_n 2, 1) := by decide +kernel
theorem dX6_boardIn_3 : decode cX6_boardIn 3 = .ok (.iconst 0, 1) := by decide +kernel
theorem dX6_boardIn_4 : decode cX6_boardIn 4 = .ok (.istore_n 3, 1) := by decide +kernel
theorem dX6_boardIn_5 : decode cX6_boardIn 5 = .ok (.iload_n 3, 1) := by decide +kernel
theorem dX6_boardIn_6 : decode cX6_boardIn 6 = .ok (.aload_n 0, 1) := by decide +kernel
theorem dX6_boardIn_7 : decode cX6_boardIn 7 = .ok (.getfield 7, 3) := by decide +kernel
theorem dX6_boardIn_10 : decode cX6_boardIn 10 = .ok (.iconst 5, 1) := by decide +kernel
theorem dX6_boardIn_11 : decode cX6_boardIn 11 = .ok (.iaload, 1) := by decide +kernel
theorem dX6_boardIn_12 : decode cX6_boardIn 12 = .ok (.if_icmp .ge 29, 3) := by decide +kernel
theorem dX6_boardIn_15 : decode cX6_boardIn 15 = .ok (.aload_n 0, 1) := by decide +kernel
theorem dX6_boardIn_16 : decode cX6_boardIn 16 = .ok (.getfield 7, 3) := by decide +kernel
theorem dX6_boardIn_19 : decode cX6_boardIn 19 = .ok (.iload_n 3, 1) := by decide +kernel
theorem dX6_boardIn_20 : decode cX6_boardIn 20 = .ok (.iconst 2, 1) := by decide +kernel
theorem dX6_boardIn_21 : decode cX6_boardIn 21 = .ok (.invokestatic 58, 3) := by decide +kernel
theorem dX6_boardIn_24 : decode cX6_boardIn 24 = .ok (.iaload, 1) := by decide +kernel
theorem dX6_boardIn_25 : decode cX6_boardIn 25 = .ok (.iload_n 1, 1) := by decide +kernel
theorem dX6_boardIn_26 : decode cX6_boardIn 26 = .ok (.if_icmp .ne 7, 3) := by decide +kernel
theorem dX6_boardIn_29 : decode cX6_boardIn 29 = .ok (.iload_n 3, 1) := by decide +kernel
theorem dX6_boardIn_30 : decode cX6_boardIn 30 = .ok (.goto 4, 3) := by decide +kernel
theorem dX6_boardIn_33 : decode cX6_boardIn 33 = .ok (.iload_n 2, 1) := by decide +kernel
theorem dX6_boardIn_34 : decode cX6_boardIn 34 = .ok (.istore_n 2, 1) := by decide +kernel
theorem dX6_boardIn_35 : decode cX6_boardIn 35 = .ok (.iinc 3 1, 3) := by decide +kernel
theorem dX6_boardIn_38 : decode cX6_boardIn 38 = .ok (.goto (-33), 3) := by decide +kernel
theorem dX6_boardIn_41 : decode cX6_boardIn 41 = .ok (.iload_n 2, 1) := by decide +kernel
theorem dX6_boardIn_42 : decode cX6_boardIn 42 = .ok (.ireturn, 1) := by decide +kernel
theorem dX6_goes_0 : decode cX6_goes 0 = .ok (.aload_n 0, 1) := by decide +kernel
theorem dX6_goes_1 : decode cX6_goes 1 = .ok (.getfield 7, 3) := by decide +kernel
theorem dX6_goes_4 : decode cX6_goes 4 = .ok (.iload_n 1, 1) := by decide +kernel
theorem dX6_goes_5 : decode cX6_goes 5 = .ok (.iconst 3, 1) := by decide +kernel
theorem dX6_goes_6 : decode cX6_goes 6 = .ok (.invokestatic 58, 3) := by decide +kernel
theorem dX6_goes_9 : decode cX6_goes 9 = .ok (.iaload, 1) := by decide +kernel
theorem dX6_goes_10 : decode cX6_goes 10 = .ok (.istore_n 2, 1) := by decide +kernel
theorem dX6_goes_11 : decode cX6_goes 11 = .ok (.iload_n 2, 1) := by decide +kernel
theorem dX6_goes_12 : decode cX6_goes 12 = .ok (.aload_n 0, 1) := by decide +kernel
theorem dX6_goes_13 : decode cX6_goes 13 = .ok (.getfield 7, 3) := by decide +kernel
theorem dX6_goes_16 : decode cX6_goes 16 = .ok (.iload_n 1, 1) := by decide +kernel
theorem dX6_goes_17 : decode cX6_goes 17 = .ok (.iconst 4, 1) := by decide +kernel
theorem dX6_goes_18 : decode cX6_goes 18 = .ok (.invokestatic 58, 3) := by decide +kernel
theorem dX6_goes_21 : decode cX6_goes 21 = .ok (.iaload, 1) := by decide +kernel
theorem dX6_goes_22 : decode cX6_goes 22 = .ok (.iadd, 1) := by decide +kernel
theorem dX6_goes_23 : decode cX6_goes 23 = .ok (.istore_n 3, 1) := by decide +kernel
theorem dX6_goes_24 : decode cX6_goes 24 = .ok (.iload_n 3, 1) := by decide +kernel
theorem dX6_goes_25 : decode cX6_goes 25 = .ok (.bipush 24, 2) := by decide +kernel
theorem dX6_goes_27 : decode cX6_goes 27 = .ok (.if_icmp .le 8, 3) := by decide +kernel
theorem dX6_goes_30 : decode cX6_goes 30 = .ok (.bipush 24, 2) := by decide +kernel
theorem dX6_goes_32 : decode cX6_goes 32 = .ok (.goto 12, 3) := by decide +kernel
theorem dX6_goes_35 : decode cX6_goes 35 = .ok (.iload_n 3, 1) := by decide +kernel
theorem dX6_goes_36 : decode cX6_goes 36 = .ok (.ifCond .ge 7, 3) := by decide +kernel
theorem dX6_goes_39 : decode cX6_goes 39 = .ok (.iconst 0, 1) := by decide +kernel
theorem dX6_goes_40 : decode cX6_goes 40 = .ok (.goto 4, 3) := by decide +kernel
theorem dX6_goes_43 : decode cX6_goes 43 = .ok (.iload_n 3, 1) := by decide +kernel
theorem dX6_goes_44 : decode cX6_goes 44 = .ok (.istore_n 3, 1) := by decide +kernel
theorem dX6_goes_45 : decode cX6_goes 45 = .ok (.aload_n 0, 1) := by decide +kernel
theorem dX6_goes_46 : decode cX6_goes 46 = .ok (.getfield 7, 3) := by decide +kernel
theorem dX6_goes_49 : decode cX6_goes 49 = .ok (.iload_n 1, 1) := by decide +kernel
theorem dX6_goes_50 : decode cX6_goes 50 = .ok (.iconst 4, 1) := by decide +kernel
theorem dX6_goes_51 : decode cX6_goes 51 = .ok (.invokestatic 58, 3) := by decide +kernel
theorem dX6_goes_54 : decode cX6_goes 54 = .ok (.iaload, 1) := by decide +kernel
theorem dX6_goes_55 : decode cX6_goes 55 = .ok (.ifCond .ge 30, 3) := by decide +kernel
theorem dX6_goes_58 : decode cX6_goes 58 = .ok (.iload_n 3, 1) := by decide +kernel
theorem dX6_goes_59 : decode cX6_goes 59 = .ok (.ifCond .ne 26, 3) := by decide +kernel
theorem dX6_goes_62 : decode cX6_goes 62 = .ok (.aload_n 0, 1) := by decide +kernel
theorem dX6_goes_63 : decode cX6_goes 63 = .ok (.getfield 7, 3) := by decide +kernel
theorem dX6_goes_66 : decode cX6_goes 66 = .ok (.iload_n 1, 1) := by decide +kernel
theorem dX6_goes_67 : decode cX6_goes 67 = .ok (.iconst 2, 1) := by decide +kernel
theorem dX6_goes_68 : decode cX6_goes 68 = .ok (.invokestatic 58, 3) := by decide +kernel
theorem dX6_goes_71 : decode cX6_goes 71 = .ok (.bipush (-6), 2) := by decide +kernel
theorem dX6_goes_73 : decode cX6_goes 73 = .ok (.iastore, 1) := by decide +kernel
theorem dX6_goes_74 : decode cX6_goes 74 = .ok (.aload_n 0, 1) := by decide +kernel
theorem dX6_goes_75 : decode cX6_goes 75 = .ok (.getfield 7, 3) := by decide +kernel
theorem dX6_goes_78 : decode cX6_goes 78 = .ok (.iload_n 1, 1) := by decide +kernel
theorem dX6_goes_79 : decode cX6_goes 79 = .ok (.iconst 5, 1) := by decide +kernel
theorem dX6_goes_80 : decode cX6_goes 80 = .ok (.invokestatic 58, 3) := by decide +kernel
theorem dX6_goes_83 : decode cX6_goes 83 = .ok (.iconst 0, 1) := by decide +kernel
theorem dX6_goes_84 : decode cX6_goes 84 = .ok (.iastore, 1) := by decide +kernel
theorem dX6_goes_85 : decode cX6_goes 85 = .ok (.aload_n 0, 1) := by decide +kernel
theorem dX6_goes_86 : decode cX6_goes 86 = .ok (.getfield 7, 3) := by decide +kernel
theorem dX6_goes_89 : decode cX6_goes 89 = .ok (.iload_n 1, 1) := by decide +kernel
theorem dX6_goes_90 : decode cX6_goes 90 = .ok (.iconst 3, 1) := by decide +kernel
theorem dX6_goes_91 : decode cX6_goes 91 = .ok (.invokestatic 58, 3) := by decide +kernel
theorem dX6_goes_94 : decode cX6_goes 94 = .ok (.iload_n 3, 1) := by decide +kernel
theorem dX6_goes_95 : decode cX6_goes 95 = .ok (.iastore, 1) := by decide +kernel
theorem dX6_goes_96 : decode cX6_goes 96 = .ok (.aload_n 0, 1) := by decide +kernel
theorem dX6_goes_97 : decode cX6_goes 97 = .ok (.getfield 7, 3) := by decide +kernel
theorem dX6_goes_100 : decode cX6_goes 100 = .ok (.iload_n 1, 1) := by decide +kernel
theorem dX6_goes_101 : decode cX6_goes 101 = .ok (.iconst 4, 1) := by decide +kernel
theorem dX6_goes_102 : decode cX6_goes 102 = .ok (.invokestatic 58, 3) := by decide +kernel
theorem dX6_goes_105 : decode cX6_goes 105 = .ok (.iload_n 3, 1) := by decide +kernel
theorem dX6_goes_106 : decode cX6_goes 106 = .ok (.bipush 24, 2) := by decide +kernel
theorem dX6_goes_108 : decode cX6_goes 108 = .ok (.if_icmp .eq 18, 3) := by decide +kernel
theorem dX6_goes_111 : decode cX6_goes 111 = .ok (.aload_n 0, 1) := by decide +kernel
theorem dX6_goes_112 : decode cX6_goes 112 = .ok (.getfield 7, 3) := by decide +kernel
theorem dX6_goes_115 : decode cX6_goes 115 = .ok (.iload_n 1, 1) := by decide +kernel
theorem dX6_goes_116 : decode cX6_goes 116 = .ok (.iconst 2, 1) := by decide +kernel
theorem dX6_goes_117 : decode cX6_goes 117 = .ok (.invokestatic 58, 3) := by decide +kernel
theorem dX6_goes_120 : decode cX6_goes 120 = .ok (.iaload, 1) := by decide +kernel
theorem dX6_goes_121 : decode cX6_goes 121 = .ok (.bipush (-6), 2) := by decide +kernel
theorem dX6_goes_123 : decode cX6_goes 123 = .ok (.if_icmp .ne 7, 3) := by decide +kernel
theorem dX6_goes_126 : decode cX6_goes 126 = .ok (.iconst 0, 1) := by decide +kernel
theorem dX6_goes_127 : decode cX6_goes 127 = .ok (.goto 13, 3) := by decide +kernel
theorem dX6_goes_130 : decode cX6_goes 130 = .ok (.aload_n 0, 1) := by decide +kernel
theorem dX6_goes_131 : decode cX6_goes 131 = .ok (.getfield 7, 3) := by decide +kernel
theorem dX6_goes_134 : decode cX6_goes 134 = .ok (.iload_n 1, 1) := by decide +kernel
theorem dX6_goes_135 : decode cX6_goes 135 = .ok (.iconst 4, 1) := by decide +kernel
theorem dX6_goes_136 : decode cX6_goes 136 = .ok (.invokestatic 58, 3) := by decide +kernel
theorem dX6_goes_139 : decode cX6_goes 139 = .ok (.iaload, 1) := by decide +kernel
theorem dX6_goes_140 : decode cX6_goes 140 = .ok (.iastore, 1) := by decide +kernel
theorem dX6_goes_141 : decode cX6_goes 141 = .ok (.iload_n 2, 1) := by decide +kernel
theorem dX6_goes_142 : decode cX6_goes 142 = .ok (.bipush 14, 2) := by decide +kernel
theorem dX6_goes_144 : decode cX6_goes 144 = .ok (.if_icmp .ge 7, 3) := by decide +kernel
theorem dX6_goes_147 : decode cX6_goes 147 = .ok (.iconst 1, 1) := by decide +kernel
theorem dX6_goes_148 : decode cX6_goes 148 = .ok (.goto 4, 3) := by decide +kernel
theorem dX6_goes_151 : decode cX6_goes 151 = .ok (.iconst 0, 1) := by decide +kernel
theorem dX6_goes_152 : decode cX6_goes 152 = .ok (.iload_n 3, 1) := by decide +kernel
theorem dX6_goes_153 : decode cX6_goes 153 = .ok (.bipush 14, 2) := by decide +kernel
theorem dX6_goes_155 : decode cX6_goes 155 = .ok (.if_icmp .ge 7, 3) := by decide +kernel
theorem dX6_goes_158 : decode cX6_goes 158 = .ok (.iconst 1, 1) := by decide +kernel
theorem dX6_goes_159 : decode cX6_goes 159 = .ok (.goto 4, 3) := by decide +kernel
theorem dX6_goes_162 : decode cX6_goes 162 = .ok (.iconst 0, 1) := by decide +kernel
theorem dX6_goes_163 : decode cX6_goes 163 = .ok (.if_icmp .eq 7, 3) := by decide +kernel
theorem dX6_goes_166 : decode cX6_goes 166 = .ok (.iconst 1, 1) := by decide +kernel
theorem dX6_goes_167 : decode cX6_goes 167 = .ok (.goto 4, 3) := by decide +kernel
theorem dX6_goes_170 : decode cX6_goes 170 = .ok (.iconst 0, 1) := by decide +kernel
theorem dX6_goes_171 : decode cX6_goes 171 = .ok (.ireturn, 1) := by decide +kernel
theorem dX6_draw_0 : decode cX6_draw 0 = .ok (.iconst 0, 1) := by decide +kernel
theorem dX6_draw_1 : decode cX6_draw 1 = .ok (.istore_n 1, 1) := by decide +kernel
theorem dX6_draw_2 : decode cX6_draw 2 = .ok (.iconst 0, 1) := by decide +kernel
theorem dX6_draw_3 : decode cX6_draw 3 = .ok (.istore_n 2, 1) := by decide +kernel
theorem dX6_draw_4 : decode cX6_draw 4 = .ok (.iload_n 2, 1) := by decide +kernel
theorem dX6_draw_5 : decode cX6_draw 5 = .ok (.aload_n 0, 1) := by decide +kernel
theorem dX6_draw_6 : decode cX6_draw 6 = .ok (.getfield 7, 3) := by decide +kernel
theorem dX6_draw_9 : decode cX6_draw 9 = .ok (.iconst 5, 1) := by decide +kernel
theorem dX6_draw_10 : decode cX6_draw 10 = .ok (.iaload, 1) := by decide +kernel
theorem dX6_draw_11 : decode cX6_draw 11 = .ok (.if_icmp .ge 36, 3) := by decide +kernel
theorem dX6_draw_14 : decode cX6_draw 14 = .ok (.iload_n 1, 1) := by decide +kernel
theorem dX6_draw_15 : decode cX6_draw 15 = .ok (.aload_n 0, 1) := by decide +kernel
theorem dX6_draw_16 : decode cX6_draw 16 = .ok (.getfield 7, 3) := by decide +kernel
theorem dX6_draw_19 : decode cX6_draw 19 = .ok (.iload_n 2, 1) := by decide +kernel
theorem dX6_draw_20 : decode cX6_draw 20 = .ok (.iconst 1, 1) := by decide +kernel
theorem dX6_draw_21 : decode cX6_draw 21 = .ok (.invokestatic 58, 3) := by decide +kernel
theorem dX6_draw_24 : decode cX6_draw 24 = .ok (.iaload, 1) := by decide +kernel
theorem dX6_draw_25 : decode cX6_draw 25 = .ok (.aload_n 0, 1) := by decide +kernel
theorem dX6_draw_26 : decode cX6_draw 26 = .ok (.getfield 7, 3) := by decide +kernel
theorem dX6_draw_29 : decode cX6_draw 29 = .ok (.iload_n 2, 1) := by decide +kernel
theorem dX6_draw_30 : decode cX6_draw 30 = .ok (.iconst 5, 1) := by decide +kernel
theorem dX6_draw_31 : decode cX6_draw 31 = .ok (.invokestatic 58, 3) := by decide +kernel
theorem dX6_draw_34 : decode cX6_draw 34 = .ok (.iaload, 1) := by decide +kernel
theorem dX6_draw_35 : decode cX6_draw 35 = .ok (.imul, 1) := by decide +kernel
theorem dX6_draw_36 : decode cX6_draw 36 = .ok (.bipush 100, 2) := by decide +kernel
theorem dX6_draw_38 : decode cX6_draw 38 = .ok (.idiv, 1) := by decide +kernel
theorem dX6_draw_39 : decode cX6_draw 39 = .ok (.iadd, 1) := by decide +kernel
theorem dX6_draw_40 : decode cX6_draw 40 = .ok (.istore_n 1, 1) := by decide +kernel
theorem dX6_draw_41 : decode cX6_draw 41 = .ok (.iinc 2 1, 3) := by decide +kernel
theorem dX6_draw_44 : decode cX6_draw 44 = .ok (.goto (-40), 3) := by decide +kernel
theorem dX6_draw_47 : decode cX6_draw 47 = .ok (.iload_n 1, 1) := by decide +kernel
theorem dX6_draw_48 : decode cX6_draw 48 = .ok (.ireturn, 1) := by decide +kernel
theorem dX6_powers_0 : decode cX6_powers 0 = .ok (.aload_n 0, 1) := by decide +kernel
theorem dX6_powers_1 : decode cX6_powers 1 = .ok (.getfield 7, 3) := by decide +kernel
theorem dX6_powers_4 : decode cX6_powers 4 = .ok (.iload_n 1, 1) := by decide +kernel
theorem dX6_powers_5 : decode cX6_powers 5 = .ok (.iconst 5, 1) := by decide +kernel
theorem dX6_powers_6 : decode cX6_powers 6 = .ok (.invokestatic 58, 3) := by decide +kernel
theorem dX6_powers_9 : decode cX6_powers 9 = .ok (.iaload, 1) := by decide +kernel
theorem dX6_powers_10 : decode cX6_powers 10 = .ok (.istore_n 2, 1) := by decide +kernel
theorem dX6_powers_11 : decode cX6_powers 11 = .ok (.aload_n 0, 1) := by decide +kernel
theorem dX6_powers_12 : decode cX6_powers 12 = .ok (.getfield 7, 3) := by decide +kernel
theorem dX6_powers_15 : decode cX6_powers 15 = .ok (.iload_n 1, 1) := by decide +kernel
theorem dX6_powers_16 : decode cX6_powers 16 = .ok (.iconst 3, 1) := by decide +kernel
theorem dX6_powers_17 : decode cX6_powers 17 = .ok (.invokestatic 58, 3) := by decide +kernel
theorem dX6_powers_20 : decode cX6_powers 20 = .ok (.iaload, 1) := by decide +kernel
theorem dX6_powers_21 : decode cX6_powers 21 = .ok (.bipush 8, 2) := by decide +kernel
theorem dX6_powers_23 : decode cX6_powers 23 = .ok (.if_icmp .ge 17, 3) := by decide +kernel
theorem dX6_powers_26 : decode cX6_powers 26 = .ok (.aload_n 0, 1) := by decide +kernel
theorem dX6_powers_27 : decode cX6_powers 27 = .ok (.getfield 7, 3) := by decide +kernel
theorem dX6_powers_30 : decode cX6_powers 30 = .ok (.iload_n 1, 1) := by decide +kernel
theorem dX6_powers_31 : decode cX6_powers 31 = .ok (.iconst 5, 1) := by decide +kernel
theorem dX6_powers_32 : decode cX6_powers 32 = .ok (.invokestatic 58, 3) := by decide +kernel
theorem dX6_powers_35 : decode cX6_powers 35 = .ok (.iconst 0, 1) := by decide +kernel
theorem dX6_powers_36 : decode cX6_powers 36 = .ok (.iastore, 1) := by decide +kernel
theorem dX6_powers_37 : decode cX6_powers 37 = .ok (.goto 82, 3) := by decide +kernel
theorem dX6_powers_40 : decode cX6_powers 40 = .ok (.iload_n 2, 1) := by decide +kernel
theorem dX6_powers_41 : decode cX6_powers 41 = .ok (.bipush 100, 2) := by decide +kernel
theorem dX6_powers_43 : decode cX6_powers 43 = .ok (.if_icmp .ge 76, 3) := by decide +kernel
theorem dX6_powers_46 : decode cX6_powers 46 = .ok (.aload_n 0, 1) := by decide +kernel
theorem dX6_powers_47 : decode cX6_powers 47 = .ok (.getfield 7, 3) := by decide +kernel
theorem dX6_powers_50 : decode cX6_powers 50 = .ok (.iload_n 1, 1) := by decide +kernel
theorem dX6_powers_51 : decode cX6_powers 51 = .ok (.iconst 5, 1) := by decide +kernel
theorem dX6_powers_52 : decode cX6_powers 52 = .ok (.invokestatic 58, 3) := by decide +kernel
theorem dX6_powers_55 : decode cX6_powers 55 = .ok (.iload_n 2, 1) := by decide +kernel
theorem dX6_powers_56 : decode cX6_powers 56 = .ok (.aload_n 0, 1) := by decide +kernel
theorem dX6_powers_57 : decode cX6_powers 57 = .ok (.getfield 7, 3) := by decide +kernel
theorem dX6_powers_60 : decode cX6_powers 60 = .ok (.iconst 1, 1) := by decide +kernel
theorem dX6_powers_61 : decode cX6_powers 61 = .ok (.iaload, 1) := by decide +kernel
theorem dX6_powers_62 : decode cX6_powers 62 = .ok (.iadd, 1) := by decide +kernel
theorem dX6_powers_63 : decode cX6_powers 63 = .ok (.bipush 100, 2) := by decide +kernel
theorem dX6_powers_65 : decode cX6_powers 65 = .ok (.if_icmp .le 8, 3) := by decide +kernel
theorem dX6_powers_68 : decode cX6_powers 68 = .ok (.bipush 100, 2) := by decide +kernel
theorem dX6_powers_70 : decode cX6_powers 70 = .ok (.goto 11, 3) := by decide +kernel
theorem dX6_powers_73 : decode cX6_powers 73 = .ok (.iload_n 2, 1) := by decide +kernel
theorem dX6_powers_74 : decode cX6_powers 74 = .ok (.aload_n 0, 1) := by decide +kernel
theorem dX6_powers_75 : decode cX6_powers 75 = .ok (.getfield 7, 3) := by decide +kernel
theorem dX6_powers_78 : decode cX6_powers 78 = .ok (.iconst 1, 1) := by decide +kernel
theorem dX6_powers_79 : decode cX6_powers 79 = .ok (.iaload, 1) := by decide +kernel
theorem dX6_powers_80 : decode cX6_powers 80 = .ok (.iadd, 1) := by decide +kernel
theorem dX6_powers_81 : decode cX6_powers 81 = .ok (.iastore, 1) := by decide +kernel
theorem dX6_powers_82 : decode cX6_powers 82 = .ok (.aload_n 0, 1) := by decide +kernel
theorem dX6_powers_83 : decode cX6_powers 83 = .ok (.getfield 7, 3) := by decide +kernel
theorem dX6_powers_86 : decode cX6_powers 86 = .ok (.iload_n 1, 1) := by decide +kernel
theorem dX6_powers_87 : decode cX6_powers 87 = .ok (.iconst 5, 1) := by decide +kernel
theorem dX6_powers_88 : decode cX6_powers 88 = .ok (.invokestatic 58, 3) := by decide +kernel
theorem dX6_powers_91 : decode cX6_powers 91 = .ok (.aload_n 0, 1) := by decide +kernel
theorem dX6_powers_92 : decode cX6_powers 92 = .ok (.invokevirtual 62, 3) := by decide +kernel
theorem dX6_powers_95 : decode cX6_powers 95 = .ok (.aload_n 0, 1) := by decide +kernel
theorem dX6_powers_96 : decode cX6_powers 96 = .ok (.getfield 7, 3) := by decide +kernel
theorem dX6_powers_99 : decode cX6_powers 99 = .ok (.iconst 4, 1) := by decide +kernel
theorem dX6_powers_100 : decode cX6_powers 100 = .ok (.iaload, 1) := by decide +kernel
theorem dX6_powers_101 : decode cX6_powers 101 = .ok (.if_icmp .le 7, 3) := by decide +kernel
theorem dX6_powers_104 : decode cX6_powers 104 = .ok (.iload_n 2, 1) := by decide +kernel
theorem dX6_powers_105 : decode cX6_powers 105 = .ok (.goto 13, 3) := by decide +kernel
theorem dX6_powers_108 : decode cX6_powers 108 = .ok (.aload_n 0, 1) := by decide +kernel
theorem dX6_powers_109 : decode cX6_powers 109 = .ok (.getfield 7, 3) := by decide +kernel
theorem dX6_powers_112 : decode cX6_powers 112 = .ok (.iload_n 1, 1) := by decide +kernel
theorem dX6_powers_113 : decode cX6_powers 113 = .ok (.iconst 5, 1) := by decide +kernel
theorem dX6_powers_114 : decode cX6_powers 114 = .ok (.invokestatic 58, 3) := by decide +kernel
theorem dX6_powers_117 : decode cX6_powers 117 = .ok (.iaload, 1) := by decide +kernel
theorem dX6_powers_118 : decode cX6_powers 118 = .ok (.iastore, 1) := by decide +kernel
theorem dX6_powers_119 : decode cX6_powers 119 = .ok (.return_, 1) := by decide +kernel
theorem dX6_forgets_0 : decode cX6_forgets 0 = .ok (.iconst 0, 1) := by decide +kernel
theorem dX6_forgets_1 : decode cX6_forgets 1 = .ok (.istore_n 2, 1) := by decide +kernel
theorem dX6_forgets_2 : decode cX6_forgets 2 = .ok (.iload_n 2, 1) := by decide +kernel
theorem dX6_forgets_3 : decode cX6_forgets 3 = .ok (.aload_n 0, 1) := by decide +kernel
theorem dX6_forgets_4 : decode cX6_forgets 4 = .ok (.getfield 7, 3) := by decide +kernel
theorem dX6_forgets_7 : decode cX6_forgets 7 = .ok (.bipush 94, 2) := by decide +kernel
theorem dX6_forgets_9 : decode cX6_forgets 9 = .ok (.iaload, 1) := by decide +kernel
theorem dX6_forgets_10 : decode cX6_forgets 10 = .ok (.if_icmp .ge 31, 3) := by decide +kernel
theorem dX6_forgets_13 : decode cX6_forgets 13 = .ok (.aload_n 0, 1) := by decide +kernel
theorem dX6_forgets_14 : decode cX6_forgets 14 = .ok (.iload_n 2, 1) := by decide +kernel
theorem dX6_forgets_15 : decode cX6_forgets 15 = .ok (.invokevirtual 43, 3) := by decide +kernel
theorem dX6_forgets_18 : decode cX6_forgets 18 = .ok (.ifCond .eq 17, 3) := by decide +kernel
theorem dX6_forgets_21 : decode cX6_forgets 21 = .ok (.aload_n 0, 1) := by decide +kernel
theorem dX6_forgets_22 : decode cX6_forgets 22 = .ok (.iload_n 2, 1) := by decide +kernel
theorem dX6_forgets_23 : decode cX6_forgets 23 = .ok (.iload_n 1, 1) := by decide +kernel
theorem dX6_forgets_24 : decode cX6_forgets 24 = .ok (.invokevirtual 47, 3) := by decide +kernel
theorem dX6_forgets_27 : decode cX6_forgets 27 = .ok (.ifCond .eq 8, 3) := by decide +kernel
theorem dX6_forgets_30 : decode cX6_forgets 30 = .ok (.aload_n 0, 1) := by decide +kernel
theorem dX6_forgets_31 : decode cX6_forgets 31 = .ok (.iload_n 2, 1) := by decide +kernel
theorem dX6_forgets_32 : decode cX6_forgets 32 = .ok (.invokevirtual 66, 3) := by decide +kernel
theorem dX6_forgets_35 : decode cX6_forgets 35 = .ok (.iinc 2 1, 3) := by decide +kernel
theorem dX6_forgets_38 : decode cX6_forgets 38 = .ok (.goto (-36), 3) := by decide +kernel
theorem dX6_forgets_41 : decode cX6_forgets 41 = .ok (.aload_n 0, 1) := by decide +kernel
theorem dX6_forgets_42 : decode cX6_forgets 42 = .ok (.getfield 7, 3) := by decide +kernel
theorem dX6_forgets_45 : decode cX6_forgets 45 = .ok (.iload_n 1, 1) := by decide +kernel
theorem dX6_forgets_46 : decode cX6_forgets 46 = .ok (.bipush 10, 2) := by decide +kernel
theorem dX6_forgets_48 : decode cX6_forgets 48 = .ok (.invokestatic 58, 3) := by decide +kernel
theorem dX6_forgets_51 : decode cX6_forgets 51 = .ok (.dup2, 1) := by decide +kernel
theorem dX6_forgets_52 : decode cX6_forgets 52 = .ok (.iaload, 1) := by decide +kernel
theorem dX6_forgets_53 : decode cX6_forgets 53 = .ok (.aload_n 0, 1) := by decide +kernel
theorem dX6_forgets_54 : decode cX6_forgets 54 = .ok (.getfield 7, 3) := by decide +kernel
theorem dX6_forgets_57 : decode cX6_forgets 57 = .ok (.iload_n 1, 1) := by decide +kernel
theorem dX6_forgets_58 : decode cX6_forgets 58 = .ok (.bipush 7, 2) := by decide +kernel
theorem dX6_forgets_60 : decode cX6_forgets 60 = .ok (.invokestatic 58, 3) := by decide +kernel
theorem dX6_forgets_63 : decode cX6_forgets 63 = .ok (.iaload, 1) := by decide +kernel
theorem dX6_forgets_64 : decode cX6_forgets 64 = .ok (.ifCond .ne 7, 3) := by decide +kernel
theorem dX6_forgets_67 : decode cX6_forgets 67 = .ok (.iconst 1, 1) := by decide +kernel
theorem dX6_forgets_68 : decode cX6_forgets 68 = .ok (.goto 4, 3) := by decide +kernel
theorem dX6_forgets_71 : decode cX6_forgets 71 = .ok (.iconst 0, 1) := by decide +kernel
theorem dX6_forgets_72 : decode cX6_forgets 72 = .ok (.iadd, 1) := by decide +kernel
theorem dX6_forgets_73 : decode cX6_forgets 73 = .ok (.iastore, 1) := by decide +kernel
theorem dX6_forgets_74 : decode cX6_forgets 74 = .ok (.aload_n 0, 1) := by decide +kernel
theorem dX6_forgets_75 : decode cX6_forgets 75 = .ok (.getfield 7, 3) := by decide +kernel
theorem dX6_forgets_78 : decode cX6_forgets 78 = .ok (.iload_n 1, 1) := by decide +kernel
theorem dX6_forgets_79 : decode cX6_forgets 79 = .ok (.bipush 7, 2) := by decide +kernel
theorem dX6_forgets_81 : decode cX6_forgets 81 = .ok (.invokestatic 58, 3) := by decide +kernel
theorem dX6_forgets_84 : decode cX6_forgets 84 = .ok (.iconst 0, 1) := by decide +kernel
theorem dX6_forgets_85 : decode cX6_forgets 85 = .ok (.iastore, 1) := by decide +kernel
theorem dX6_forgets_86 : decode cX6_forgets 86 = .ok (.aload_n 0, 1) := by decide +kernel
theorem dX6_forgets_87 : decode cX6_forgets 87 = .ok (.getfield 7, 3) := by decide +kernel
theorem dX6_forgets_90 : decode cX6_forgets 90 = .ok (.iload_n 1, 1) := by decide +kernel
theorem dX6_forgets_91 : decode cX6_forgets 91 = .ok (.bipush 6, 2) := by decide +kernel
theorem dX6_forgets_93 : decode cX6_forgets 93 = .ok (.invokestatic 58, 3) := by decide +kernel
theorem dX6_forgets_96 : decode cX6_forgets 96 = .ok (.iconst 0, 1) := by decide +kernel
theorem dX6_forgets_97 : decode cX6_forgets 97 = .ok (.iastore, 1) := by decide +kernel
theorem dX6_forgets_98 : decode cX6_forgets 98 = .ok (.return_, 1) := by decide +kernel
theorem dX6_greets_0 : decode cX6_greets 0 = .ok (.aload_n 0, 1) := by decide +kernel
theorem dX6_greets_1 : decode cX6_greets 1 = .ok (.getfield 7, 3) := by decide +kernel
theorem dX6_greets_4 : decode cX6_greets 4 = .ok (.iload_n 1, 1) := by decide +kernel
theorem dX6_greets_5 : decode cX6_greets 5 = .ok (.iconst 2, 1) := by decide +kernel
theorem dX6_greets_6 : decode cX6_greets 6 = .ok (.invokestatic 58, 3) := by decide +kernel
theorem dX6_greets_9 : decode cX6_greets 9 = .ok (.iaload, 1) := by decide +kernel
theorem dX6_greets_10 : decode cX6_greets 10 = .ok (.bipush (-6), 2) := by decide +kernel
theorem dX6_greets_12 : decode cX6_greets 12 = .ok (.if_icmp .eq 22, 3) := by decide +kernel
theorem dX6_greets_15 : decode cX6_greets 15 = .ok (.aload_n 0, 1) := by decide +kernel
theorem dX6_greets_16 : decode cX6_greets 16 = .ok (.getfield 7, 3) := by decide +kernel
theorem dX6_greets_19 : decode cX6_greets 19 = .ok (.iload_n 1, 1) := by decide +kernel
theorem dX6_greets_20 : decode cX6_greets 20 = .ok (.iconst 3, 1) := by decide +kernel
theorem dX6_greets_21 : decode cX6_greets 21 = .ok (.invokestatic 58, 3) := by decide +kernel
theorem dX6_greets_24 : decode cX6_greets 24 = .ok (.iaload, 1) := by decide +kernel
theorem dX6_greets_25 : decode cX6_greets 25 = .ok (.bipush 20, 2) := by decide +kernel
theorem dX6_greets_27 : decode cX6_greets 27 = .ok (.if_icmp .lt 7, 3) := by decide +kernel
theorem dX6_greets_30 : decode cX6_greets 30 = .ok (.iconst 1, 1) := by decide +kernel
theorem dX6_greets_31 : decode cX6_greets 31 = .ok (.goto 4, 3) := by decide +kernel
theorem dX6_greets_34 : decode cX6_greets 34 = .ok (.iconst 0, 1) := by decide +kernel
theorem dX6_greets_35 : decode cX6_greets 35 = .ok (.istore_n 2, 1) := by decide +kernel
theorem dX6_greets_36 : decode cX6_greets 36 = .ok (.aload_n 0, 1) := by decide +kernel
theorem dX6_greets_37 : decode cX6_greets 37 = .ok (.getfield 7, 3) := by decide +kernel
theorem dX6_greets_40 : decode cX6_greets 40 = .ok (.iload_n 1, 1) := by decide +kernel
theorem dX6_greets_41 : decode cX6_greets 41 = .ok (.bipush 6, 2) := by decide +kernel
theorem dX6_greets_43 : decode cX6_greets 43 = .ok (.invokestatic 58, 3) := by decide +kernel
theorem dX6_greets_46 : decode cX6_greets 46 = .ok (.iaload, 1) := by decide +kernel
theorem dX6_greets_47 : decode cX6_greets 47 = .ok (.iconst 1, 1) := by decide +kernel
theorem dX6_greets_48 : decode cX6_greets 48 = .ok (.if_icmp .ne 7, 3) := by decide +kernel
theorem dX6_greets_51 : decode cX6_greets 51 = .ok (.iconst 1, 1) := by decide +kernel
theorem dX6_greets_52 : decode cX6_greets 52 = .ok (.goto 4, 3) := by decide +kernel
theorem dX6_greets_55 : decode cX6_greets 55 = .ok (.iconst 0, 1) := by decide +kernel
theorem dX6_greets_56 : decode cX6_greets 56 = .ok (.istore_n 3, 1) := by decide +kernel
theorem dX6_greets_57 : decode cX6_greets 57 = .ok (.iload_n 2, 1) := by decide +kernel
theorem dX6_greets_58 : decode cX6_greets 58 = .ok (.ifCond .ne 27, 3) := by decide +kernel
theorem dX6_greets_61 : decode cX6_greets 61 = .ok (.aload_n 0, 1) := by decide +kernel
theorem dX6_greets_62 : decode cX6_greets 62 = .ok (.getfield 7, 3) := by decide +kernel
theorem dX6_greets_65 : decode cX6_greets 65 = .ok (.iload_n 1, 1) := by decide +kernel
theorem dX6_greets_66 : decode cX6_greets 66 = .ok (.bipush 8, 2) := by decide +kernel
theorem dX6_greets_68 : decode cX6_greets 68 = .ok (.invokestatic 58, 3) := by decide +kernel
theorem dX6_greets_71 : decode cX6_greets 71 = .ok (.iconst 0, 1) := by decide +kernel
theorem dX6_greets_72 : decode cX6_greets 72 = .ok (.iastore, 1) := by decide +kernel
theorem dX6_greets_73 : decode cX6_greets 73 = .ok (.iload_n 3, 1) := by decide +kernel
theorem dX6_greets_74 : decode cX6_greets 74 = .ok (.ifCond .eq 100, 3) := by decide +kernel
theorem dX6_greets_77 : decode cX6_greets 77 = .ok (.aload_n 0, 1) := by decide +kernel
theorem dX6_greets_78 : decode cX6_greets 78 = .ok (.iload_n 1, 1) := by decide +kernel
theorem dX6_greets_79 : decode cX6_greets 79 = .ok (.invokevirtual 70, 3) := by decide +kernel
theorem dX6_greets_82 : decode cX6_greets 82 = .ok (.goto 92, 3) := by decide +kernel
theorem dX6_greets_85 : decode cX6_greets 85 = .ok (.iload_n 3, 1) := by decide +kernel
theorem dX6_greets_86 : decode cX6_greets 86 = .ok (.ifCond .ne 88, 3) := by decide +kernel
theorem dX6_greets_89 : decode cX6_greets 89 = .ok (.aload_n 0, 1) := by decide +kernel
theorem dX6_greets_90 : decode cX6_greets 90 = .ok (.getfield 7, 3) := by decide +kernel
theorem dX6_greets_93 : decode cX6_greets 93 = .ok (.iload_n 1, 1) := by decide +kernel
theorem dX6_greets_94 : decode cX6_greets 94 = .ok (.iconst 5, 1) := by decide +kernel
theorem dX6_greets_95 : decode cX6_greets 95 = .ok (.invokestatic 58, 3) := by decide +kernel
theorem dX6_greets_98 : decode cX6_greets 98 = .ok (.iaload, 1) := by decide +kernel
theorem dX6_greets_99 : decode cX6_greets 99 = .ok (.bipush 100, 2) := by decide +kernel
theorem dX6_greets_101 : decode cX6_greets 101 = .ok (.if_icmp .ne 73, 3) := by decide +kernel
theorem dX6_greets_104 : decode cX6_greets 104 = .ok (.aload_n 0, 1) := by decide +kernel
theorem dX6_greets_105 : decode cX6_greets 105 = .ok (.getfield 7, 3) := by decide +kernel
theorem dX6_greets_108 : decode cX6_greets 108 = .ok (.iload_n 1, 1) := by decide +kernel
theorem dX6_greets_109 : decode cX6_greets 109 = .ok (.bipush 8, 2) := by decide +kernel
theorem dX6_greets_111 : decode cX6_greets 111 = .ok (.invokestatic 58, 3) := by decide +kernel
theorem dX6_greets_114 : decode cX6_greets 114 = .ok (.iaload, 1) := by decide +kernel
theorem dX6_greets_115 : decode cX6_greets 115 = .ok (.iconst 1, 1) := by decide +kernel
theorem dX6_greets_116 : decode cX6_greets 116 = .ok (.iadd, 1) := by decide +kernel
theorem dX6_greets_117 : decode cX6_greets 117 = .ok (.istore 4, 2) := by decide +kernel
theorem dX6_greets_119 : decode cX6_greets 119 = .ok (.aload_n 0, 1) := by decide +kernel
theorem dX6_greets_120 : decode cX6_greets 120 = .ok (.getfield 7, 3) := by decide +kernel
theorem dX6_greets_123 : decode cX6_greets 123 = .ok (.iload_n 1, 1) := by decide +kernel
theorem dX6_greets_124 : decode cX6_greets 124 = .ok (.bipush 6, 2) := by decide +kernel
theorem dX6_greets_126 : decode cX6_greets 126 = .ok (.invokestatic 58, 3) := by decide +kernel
theorem dX6_greets_129 : decode cX6_greets 129 = .ok (.iload 4, 2) := by decide +kernel
theorem dX6_greets_131 : decode cX6_greets 131 = .ok (.aload_n 0, 1) := by decide +kernel
theorem dX6_greets_132 : decode cX6_greets 132 = .ok (.getfield 7, 3) := by decide +kernel
theorem dX6_greets_135 : decode cX6_greets 135 = .ok (.iconst 3, 1) := by decide +kernel
theorem dX6_greets_136 : decode cX6_greets 136 = .ok (.iaload, 1) := by decide +kernel
theorem dX6_greets_137 : decode cX6_greets 137 = .ok (.if_icmp .lt 7, 3) := by decide +kernel
theorem dX6_greets_140 : decode cX6_greets 140 = .ok (.iconst 1, 1) := by decide +kernel
theorem dX6_greets_141 : decode cX6_greets 141 = .ok (.goto 4, 3) := by decide +kernel
theorem dX6_greets_144 : decode cX6_greets 144 = .ok (.iconst 0, 1) := by decide +kernel
theorem dX6_greets_145 : decode cX6_greets 145 = .ok (.iastore, 1) := by decide +kernel
theorem dX6_greets_146 : decode cX6_greets 146 = .ok (.aload_n 0, 1) := by decide +kernel
theorem dX6_greets_147 : decode cX6_greets 147 = .ok (.getfield 7, 3) := by decide +kernel
theorem dX6_greets_150 : decode cX6_greets 150 = .ok (.iload_n 1, 1) := by decide +kernel
theorem dX6_greets_151 : decode cX6_greets 151 = .ok (.bipush 8, 2) := by decide +kernel
theorem dX6_greets_153 : decode cX6_greets 153 = .ok (.invokestatic 58, 3) := by decide +kernel
theorem dX6_greets_156 : decode cX6_greets 156 = .ok (.iload 4, 2) := by decide +kernel
theorem dX6_greets_158 : decode cX6_greets 158 = .ok (.aload_n 0, 1) := by decide +kernel
theorem dX6_greets_159 : decode cX6_greets 159 = .ok (.getfield 7, 3) := by decide +kernel
theorem dX6_greets_162 : decode cX6_greets 162 = .ok (.iconst 3, 1) := by decide +kernel
theorem dX6_greets_163 : decode cX6_greets 163 = .ok (.iaload, 1) := by decide +kernel
theorem dX6_greets_164 : decode cX6_greets 164 = .ok (.if_icmp .lt 7, 3) := by decide +kernel
theorem dX6_greets_167 : decode cX6_greets 167 = .ok (.iconst 0, 1) := by decide +kernel
theorem dX6_greets_168 : decode cX6_greets 168 = .ok (.goto 5, 3) := by decide +kernel
theorem dX6_greets_171 : decode cX6_greets 171 = .ok (.iload 4, 2) := by decide +kernel
theorem dX6_greets_173 : decode cX6_greets 173 = .ok (.iastore, 1) := by decide +kernel
theorem dX6_greets_174 : decode cX6_greets 174 = .ok (.return_, 1) := by decide +kernel
theorem dX6_serves_0 : decode cX6_serves 0 = .ok (.aload_n 0, 1) := by decide +kernel
theorem dX6_serves_1 : decode cX6_serves 1 = .ok (.getfield 7, 3) := by decide +kernel
theorem dX6_serves_4 : decode cX6_serves 4 = .ok (.sipush 295, 3) := by decide +kernel
theorem dX6_serves_7 : decode cX6_serves 7 = .ok (.iaload, 1) := by decide +kernel
theorem dX6_serves_8 : decode cX6_serves 8 = .ok (.istore_n 2, 1) := by decide +kernel
theorem dX6_serves_9 : decode cX6_serves 9 = .ok (.iload_n 2, 1) := by decide +kernel
theorem dX6_serves_10 : decode cX6_serves 10 = .ok (.bipush (-6), 2) := by decide +kernel
theorem dX6_serves_12 : decode cX6_serves 12 = .ok (.if_icmp .ne 4, 3) := by decide +kernel
theorem dX6_serves_15 : decode cX6_serves 15 = .ok (.return_, 1) := by decide +kernel
theorem dX6_serves_16 : decode cX6_serves 16 = .ok (.iload_n 1, 1) := by decide +kernel
theorem dX6_serves_17 : decode cX6_serves 17 = .ok (.ifCond .eq 67, 3) := by decide +kernel
theorem dX6_serves_20 : decode cX6_serves 20 = .ok (.aload_n 0, 1) := by decide +kernel
theorem dX6_serves_21 : decode cX6_serves 21 = .ok (.getfield 7, 3) := by decide +kernel
theorem dX6_serves_24 : decode cX6_serves 24 = .ok (.bipush 95, 2) := by decide +kernel
theorem dX6_serves_26 : decode cX6_serves 26 = .ok (.iload_n 2, 1) := by decide +kernel
theorem dX6_serves_27 : decode cX6_serves 27 = .ok (.iadd, 1) := by decide +kernel
theorem dX6_serves_28 : decode cX6_serves 28 = .ok (.dup2, 1) := by decide +kernel
theorem dX6_serves_29 : decode cX6_serves 29 = .ok (.iaload, 1) := by decide +kernel
theorem dX6_serves_30 : decode cX6_serves 30 = .ok (.sipush 256, 3) := by decide +kernel
theorem dX6_serves_33 : decode cX6_serves 33 = .ok (.iadd, 1) := by decide +kernel
theorem dX6_serves_34 : decode cX6_serves 34 = .ok (.iastore, 1) := by decide +kernel
theorem dX6_serves_35 : decode cX6_serves 35 = .ok (.aload_n 0, 1) := by decide +kernel
theorem dX6_serves_36 : decode cX6_serves 36 = .ok (.getfield 7, 3) := by decide +kernel
theorem dX6_serves_39 : decode cX6_serves 39 = .ok (.sipush 299, 3) := by decide +kernel
theorem dX6_serves_42 : decode cX6_serves 42 = .ok (.dup2, 1) := by decide +kernel
theorem dX6_serves_43 : decode cX6_serves 43 = .ok (.iaload, 1) := by decide +kernel
theorem dX6_serves_44 : decode cX6_serves 44 = .ok (.iconst 1, 1) := by decide +kernel
theorem dX6_serves_45 : decode cX6_serves 45 = .ok (.iadd, 1) := by decide +kernel
theorem dX6_serves_46 : decode cX6_serves 46 = .ok (.iastore, 1) := by decide +kernel
theorem dX6_serves_47 : decode cX6_serves 47 = .ok (.aload_n 0, 1) := by decide +kernel
theorem dX6_serves_48 : decode cX6_serves 48 = .ok (.getfield 7, 3) := by decide +kernel
theorem dX6_serves_51 : decode cX6_serves 51 = .ok (.sipush 296, 3) := by decide +kernel
theorem dX6_serves_54 : decode cX6_serves 54 = .ok (.aload_n 0, 1) := by decide +kernel
theorem dX6_serves_55 : decode cX6_serves 55 = .ok (.getfield 7, 3) := by decide +kernel
theorem dX6_serves_58 : decode cX6_serves 58 = .ok (.iconst 2, 1) := by decide +kernel
theorem dX6_serves_59 : decode cX6_serves 59 = .ok (.iaload, 1) := by decide +kernel
theorem dX6_serves_60 : decode cX6_serves 60 = .ok (.iastore, 1) := by decide +kernel
theorem dX6_serves_61 : decode cX6_serves 61 = .ok (.aload_n 0, 1) := by decide +kernel
theorem dX6_serves_62 : decode cX6_serves 62 = .ok (.getfield 7, 3) := by decide +kernel
theorem dX6_serves_65 : decode cX6_serves 65 = .ok (.bipush 95, 2) := by decide +kernel
theorem dX6_serves_67 : decode cX6_serves 67 = .ok (.iload_n 2, 1) := by decide +kernel
theorem dX6_serves_68 : decode cX6_serves 68 = .ok (.iadd, 1) := by decide +kernel
theorem dX6_serves_69 : decode cX6_serves 69 = .ok (.iaload, 1) := by decide +kernel
theorem dX6_serves_70 : decode cX6_serves 70 = .ok (.sipush 256, 3) := by decide +kernel
theorem dX6_serves_73 : decode cX6_serves 73 = .ok (.idiv, 1) := by decide +kernel
theorem dX6_serves_74 : decode cX6_serves 74 = .ok (.iconst 3, 1) := by decide +kernel
theorem dX6_serves_75 : decode cX6_serves 75 = .ok (.if_icmp .ne 8, 3) := by decide +kernel
theorem dX6_serves_78 : decode cX6_serves 78 = .ok (.aload_n 0, 1) := by decide +kernel
theorem dX6_serves_79 : decode cX6_serves 79 = .ok (.iload_n 2, 1) := by decide +kernel
theorem dX6_serves_80 : decode cX6_serves 80 = .ok (.invokevirtual 66, 3) := by decide +kernel
theorem dX6_serves_83 : decode cX6_serves 83 = .ok (.return_, 1) := by decide +kernel
theorem dX6_serves_84 : decode cX6_serves 84 = .ok (.aload_n 0, 1) := by decide +kernel
theorem dX6_serves_85 : decode cX6_serves 85 = .ok (.getfield 7, 3) := by decide +kernel
theorem dX6_serves_88 : decode cX6_serves 88 = .ok (.sipush 296, 3) := by decide +kernel
theorem dX6_serves_91 : decode cX6_serves 91 = .ok (.dup2, 1) := by decide +kernel
theorem dX6_serves_92 : decode cX6_serves 92 = .ok (.iaload, 1) := by decide +kernel
theorem dX6_serves_93 : decode cX6_serves 93 = .ok (.iconst 1, 1) := by decide +kernel
theorem dX6_serves_94 : decode cX6_serves 94 = .ok (.isub, 1) := by decide +kernel
theorem dX6_serves_95 : decode cX6_serves 95 = .ok (.iastore, 1) := by decide +kernel
theorem dX6_serves_96 : decode cX6_serves 96 = .ok (.aload_n 0, 1) := by decide +kernel
theorem dX6_serves_97 : decode cX6_serves 97 = .ok (.getfield 7, 3) := by decide +kernel
theorem dX6_serves_100 : decode cX6_serves 100 = .ok (.sipush 296, 3) := by decide +kernel
theorem dX6_serves_103 : decode cX6_serves 103 = .ok (.iaload, 1) := by decide +kernel
theorem dX6_serves_104 : decode cX6_serves 104 = .ok (.ifCond .ne 50, 3) := by decide +kernel
theorem dX6_serves_107 : decode cX6_serves 107 = .ok (.aload_n 0, 1) := by decide +kernel
theorem dX6_serves_108 : decode cX6_serves 108 = .ok (.iload_n 2, 1) := by decide +kernel
theorem dX6_serves_109 : decode cX6_serves 109 = .ok (.iconst 2, 1) := by decide +kernel
theorem dX6_serves_110 : decode cX6_serves 110 = .ok (.invokevirtual 39, 3) := by decide +kernel
theorem dX6_serves_113 : decode cX6_serves 113 = .ok (.aload_n 0, 1) := by decide +kernel
theorem dX6_serves_114 : decode cX6_serves 114 = .ok (.getfield 7, 3) := by decide +kernel
theorem dX6_serves_117 : decode cX6_serves 117 = .ok (.sipush 300, 3) := by decide +kernel
theorem dX6_serves_120 : decode cX6_serves 120 = .ok (.dup2, 1) := by decide +kernel
theorem dX6_serves_121 : decode cX6_serves 121 = .ok (.iaload, 1) := by decide +kernel
theorem dX6_serves_122 : decode cX6_serves 122 = .ok (.iconst 1, 1) := by decide +kernel
theorem dX6_serves_123 : decode cX6_serves 123 = .ok (.iadd, 1) := by decide +kernel
theorem dX6_serves_124 : decode cX6_serves 124 = .ok (.iastore, 1) := by decide +kernel
theorem dX6_serves_125 : decode cX6_serves 125 = .ok (.aload_n 0, 1) := by decide +kernel
theorem dX6_serves_126 : decode cX6_serves 126 = .ok (.getfield 7, 3) := by decide +kernel
theorem dX6_serves_129 : decode cX6_serves 129 = .ok (.aload_n 0, 1) := by decide +kernel
theorem dX6_serves_130 : decode cX6_serves 130 = .ok (.iload_n 2, 1) := by decide +kernel
theorem dX6_serves_131 : decode cX6_serves 131 = .ok (.invokevirtual 33, 3) := by decide +kernel
theorem dX6_serves_134 : decode cX6_serves 134 = .ok (.bipush 9, 2) := by decide +kernel
theorem dX6_serves_136 : decode cX6_serves 136 = .ok (.invokestatic 58, 3) := by decide +kernel
theorem dX6_serves_139 : decode cX6_serves 139 = .ok (.dup2, 1) := by decide +kernel
theorem dX6_serves_140 : decode cX6_serves 140 = .ok (.iaload, 1) := by decide +kernel
theorem dX6_serves_141 : decode cX6_serves 141 = .ok (.iconst 1, 1) := by decide +kernel
theorem dX6_serves_142 : decode cX6_serves 142 = .ok (.iadd, 1) := by decide +kernel
theorem dX6_serves_143 : decode cX6_serves 143 = .ok (.iastore, 1) := by decide +kernel
theorem dX6_serves_144 : decode cX6_serves 144 = .ok (.aload_n 0, 1) := by decide +kernel
theorem dX6_serves_145 : decode cX6_serves 145 = .ok (.getfield 7, 3) := by decide +kernel
theorem dX6_serves_148 : decode cX6_serves 148 = .ok (.sipush 295, 3) := by decide +kernel
theorem dX6_serves_151 : decode cX6_serves 151 = .ok (.bipush (-6), 2) := by decide +kernel
theorem dX6_serves_153 : decode cX6_serves 153 = .ok (.iastore, 1) := by decide +kernel
theorem dX6_serves_154 : decode cX6_serves 154 = .ok (.return_, 1) := by decide +kernel
theorem dX6_isHeld_0 : decode cX6_isHeld 0 = .ok (.iconst 0, 1) := by decide +kernel
theorem dX6_isHeld_1 : decode cX6_isHeld 1 = .ok (.istore_n 1, 1) := by decide +kernel
theorem dX6_isHeld_2 : decode cX6_isHeld 2 = .ok (.iconst 0, 1) := by decide +kernel
theorem dX6_isHeld_3 : decode cX6_isHeld 3 = .ok (.istore_n 2, 1) := by decide +kernel
theorem dX6_isHeld_4 : decode cX6_isHeld 4 = .ok (.iload_n 2, 1) := by decide +kernel
theorem dX6_isHeld_5 : decode cX6_isHeld 5 = .ok (.aload_n 0, 1) := by decide +kernel
theorem dX6_isHeld_6 : decode cX6_isHeld 6 = .ok (.getfield 7, 3) := by decide +kernel
theorem dX6_isHeld_9 : decode cX6_isHeld 9 = .ok (.iconst 5, 1) := by decide +kernel
theorem dX6_isHeld_10 : decode cX6_isHeld 10 = .ok (.iaload, 1) := by decide +kernel
theorem dX6_isHeld_11 : decode cX6_isHeld 11 = .ok (.if_icmp .ge 69, 3) := by decide +kernel
theorem dX6_isHeld_14 : decode cX6_isHeld 14 = .ok (.aload_n 0, 1) := by decide +kernel
theorem dX6_isHeld_15 : decode cX6_isHeld 15 = .ok (.getfield 7, 3) := by decide +kernel
theorem dX6_isHeld_18 : decode cX6_isHeld 18 = .ok (.iload_n 2, 1) := by decide +kernel
theorem dX6_isHeld_19 : decode cX6_isHeld 19 = .ok (.iconst 4, 1) := by decide +kernel
theorem dX6_isHeld_20 : decode cX6_isHeld 20 = .ok (.invokestatic 58, 3) := by decide +kernel
theorem dX6_isHeld_23 : decode cX6_isHeld 23 = .ok (.iaload, 1) := by decide +kernel
theorem dX6_isHeld_24 : decode cX6_isHeld 24 = .ok (.istore_n 3, 1) := by decide +kernel
theorem dX6_isHeld_25 : decode cX6_isHeld 25 = .ok (.aload_n 0, 1) := by decide +kernel
theorem dX6_isHeld_26 : decode cX6_isHeld 26 = .ok (.getfield 7, 3) := by decide +kernel
theorem dX6_isHeld_29 : decode cX6_isHeld 29 = .ok (.iload_n 2, 1) := by decide +kernel
theorem dX6_isHeld_30 : decode cX6_isHeld 30 = .ok (.iconst 3, 1) := by decide +kernel
theorem dX6_isHeld_31 : decode cX6_isHeld 31 = .ok (.invokestatic 58, 3) := by decide +kernel
theorem dX6_isHeld_34 : decode cX6_isHeld 34 = .ok (.iaload, 1) := by decide +kernel
theorem dX6_isHeld_35 : decode cX6_isHeld 35 = .ok (.istore 4, 2) := by decide +kernel
theorem dX6_isHeld_37 : decode cX6_isHeld 37 = .ok (.iload_n 1, 1) := by decide +kernel
theorem dX6_isHeld_38 : decode cX6_isHeld 38 = .ok (.ifCond .ne 30, 3) := by decide +kernel
theorem dX6_isHeld_41 : decode cX6_isHeld 41 = .ok (.iload_n 3, 1) := by decide +kernel
theorem dX6_isHeld_42 : decode cX6_isHeld 42 = .ok (.ifCond .le 15, 3) := by decide +kernel
theorem dX6_isHeld_45 : decode cX6_isHeld 45 = .ok (.iload 4, 2) := by decide +kernel
theorem dX6_isHeld_47 : decode cX6_isHeld 47 = .ok (.bipush 8, 2) := by decide +kernel
theorem dX6_isHeld_49 : decode cX6_isHeld 49 = .ok (.bipush 13, 2) := by decide +kernel
theorem dX6_isHeld_51 : decode cX6_isHeld 51 = .ok (.invokestatic 25, 3) := by decide +kernel
theorem dX6_isHeld_54 : decode cX6_isHeld 54 = .ok (.ifCond .ne 14, 3) := by decide +kernel
theorem dX6_isHeld_57 : decode cX6_isHeld 57 = .ok (.iload_n 3, 1) := by decide +kernel
theorem dX6_isHeld_58 : decode cX6_isHeld 58 = .ok (.ifCond .ge 14, 3) := by decide +kernel
theorem dX6_isHeld_61 : decode cX6_isHeld 61 = .ok (.iload 4, 2) := by decide +kernel
theorem dX6_isHeld_63 : decode cX6_isHeld 63 = .ok (.bipush 14, 2) := by decide +kernel
theorem dX6_isHeld_65 : decode cX6_isHeld 65 = .ok (.if_icmp .lt 7, 3) := by decide +kernel
theorem dX6_isHeld_68 : decode cX6_isHeld 68 = .ok (.iconst 1, 1) := by decide +kernel
theorem dX6_isHeld_69 : decode cX6_isHeld 69 = .ok (.goto 4, 3) := by decide +kernel
theorem dX6_isHeld_72 : decode cX6_isHeld 72 = .ok (.iconst 0, 1) := by decide +kernel
theorem dX6_isHeld_73 : decode cX6_isHeld 73 = .ok (.istore_n 1, 1) := by decide +kernel
theorem dX6_isHeld_74 : decode cX6_isHeld 74 = .ok (.iinc 2 1, 3) := by decide +kernel
theorem dX6_isHeld_77 : decode cX6_isHeld 77 = .ok (.goto (-73), 3) := by decide +kernel
theorem dX6_isHeld_80 : decode cX6_isHeld 80 = .ok (.iload_n 1, 1) := by decide +kernel
theorem dX6_isHeld_81 : decode cX6_isHeld 81 = .ok (.ifCond .eq 17, 3) := by decide +kernel
theorem dX6_isHeld_84 : decode cX6_isHeld 84 = .ok (.aload_n 0, 1) := by decide +kernel
theorem dX6_isHeld_85 : decode cX6_isHeld 85 = .ok (.getfield 7, 3) := by decide +kernel
theorem dX6_isHeld_88 : decode cX6_isHeld 88 = .ok (.iconst 0, 1) := by decide +kernel
theorem dX6_isHeld_89 : decode cX6_isHeld 89 = .ok (.iaload, 1) := by decide +kernel
theorem dX6_isHeld_90 : decode cX6_isHeld 90 = .ok (.iconst 1, 1) := by decide +kernel
theorem dX6_isHeld_91 : decode cX6_isHeld 91 = .ok (.if_icmp .ne 7, 3) := by decide +kernel
theorem dX6_isHeld_94 : decode cX6_isHeld 94 = .ok (.iconst 1, 1) := by decide +kernel
theorem dX6_isHeld_95 : decode cX6_isHeld 95 = .ok (.goto 4, 3) := by decide +kernel
theorem dX6_isHeld_98 : decode cX6_isHeld 98 = .ok (.iconst 0, 1) := by decide +kernel
theorem dX6_isHeld_99 : decode cX6_isHeld 99 = .ok (.ireturn, 1) := by decide +kernel
theorem dX6_isReady_0 : decode cX6_isReady 0 = .ok (.aload_n 0, 1) := by decide +kernel
theorem dX6_isReady_1 : decode cX6_isReady 1 = .ok (.iload_n 1, 1) := by decide +kernel
theorem dX6_isReady_2 : decode cX6_isReady 2 = .ok (.invokevirtual 29, 3) := by decide +kernel
theorem dX6_isReady_5 : decode cX6_isReady 5 = .ok (.ifCond .ne 45, 3) := by decide +kernel
theorem dX6_isReady_8 : decode cX6_isReady 8 = .ok (.aload_n 0, 1) := by decide +kernel
theorem dX6_isReady_9 : decode cX6_isReady 9 = .ok (.getfield 7, 3) := by decide +kernel
theorem dX6_isReady_12 : decode cX6_isReady 12 = .ok (.aload_n 0, 1) := by decide +kernel
theorem dX6_isReady_13 : decode cX6_isReady 13 = .ok (.iload_n 1, 1) := by decide +kernel
theorem dX6_isReady_14 : decode cX6_isReady 14 = .ok (.invokevirtual 33, 3) := by decide +kernel
theorem dX6_isReady_17 : decode cX6_isReady 17 = .ok (.bipush 6, 2) := by decide +kernel
theorem dX6_isReady_19 : decode cX6_isReady 19 = .ok (.invokestatic 58, 3) := by decide +kernel
theorem dX6_isReady_22 : decode cX6_isReady 22 = .ok (.iaload, 1) := by decide +kernel
theorem dX6_isReady_23 : decode cX6_isReady 23 = .ok (.iconst 1, 1) := by decide +kernel
theorem dX6_isReady_24 : decode cX6_isReady 24 = .ok (.if_icmp .ne 26, 3) := by decide +kernel
theorem dX6_isReady_27 : decode cX6_isReady 27 = .ok (.aload_n 0, 1) := by decide +kernel
theorem dX6_isReady_28 : decode cX6_isReady 28 = .ok (.getfield 7, 3) := by decide +kernel
theorem dX6_isReady_31 : decode cX6_isReady 31 = .ok (.aload_n 0, 1) := by decide +kernel
theorem dX6_isReady_32 : decode cX6_isReady 32 = .ok (.iload_n 1, 1) := by decide +kernel
theorem dX6_isReady_33 : decode cX6_isReady 33 = .ok (.invokevirtual 36, 3) := by decide +kernel
theorem dX6_isReady_36 : decode cX6_isReady 36 = .ok (.bipush 6, 2) := by decide +kernel
theorem dX6_isReady_38 : decode cX6_isReady 38 = .ok (.invokestatic 58, 3) := by decide +kernel
theorem dX6_isReady_41 : decode cX6_isReady 41 = .ok (.iaload, 1) := by decide +kernel
theorem dX6_isReady_42 : decode cX6_isReady 42 = .ok (.iconst 1, 1) := by decide +kernel
theorem dX6_isReady_43 : decode cX6_isReady 43 = .ok (.if_icmp .ne 7, 3) := by decide +kernel
theorem dX6_isReady_46 : decode cX6_isReady 46 = .ok (.iconst 1, 1) := by decide +kernel
theorem dX6_isReady_47 : decode cX6_isReady 47 = .ok (.goto 4, 3) := by decide +kernel
theorem dX6_isReady_50 : decode cX6_isReady 50 = .ok (.iconst 0, 1) := by decide +kernel
theorem dX6_isReady_51 : decode cX6_isReady 51 = .ok (.ireturn, 1) := by decide +kernel
theorem dX6_getsOn_0 : decode cX6_getsOn 0 = .ok (.bipush (-6), 2) := by decide +kernel
theorem dX6_getsOn_2 : decode cX6_getsOn 2 = .ok (.istore_n 1, 1) := by decide +kernel
theorem dX6_getsOn_3 : decode cX6_getsOn 3 = .ok (.aload_n 0, 1) := by decide +kernel
theorem dX6_getsOn_4 : decode cX6_getsOn 4 = .ok (.getfield 7, 3) := by decide +kernel
theorem dX6_getsOn_7 : decode cX6_getsOn 7 = .ok (.bipush 94, 2) := by decide +kernel
theorem dX6_getsOn_9 : decode cX6_getsOn 9 = .ok (.iaload, 1) := by decide +kernel
theorem dX6_getsOn_10 : decode cX6_getsOn 10 = .ok (.iconst 1, 1) := by decide +kernel
theorem dX6_getsOn_11 : decode cX6_getsOn 11 = .ok (.isub, 1) := by decide +kernel
theorem dX6_getsOn_12 : decode cX6_getsOn 12 = .ok (.istore_n 2, 1) := by decide +kernel
theorem dX6_getsOn_13 : decode cX6_getsOn 13 = .ok (.iload_n 2, 1) := by decide +kernel
theorem dX6_getsOn_14 : decode cX6_getsOn 14 = .ok (.ifCond .lt 23, 3) := by decide +kernel
theorem dX6_getsOn_17 : decode cX6_getsOn 17 = .ok (.aload_n 0, 1) := by decide +kernel
theorem dX6_getsOn_18 : decode cX6_getsOn 18 = .ok (.iload_n 2, 1) := by decide +kernel
theorem dX6_getsOn_19 : decode cX6_getsOn 19 = .ok (.invokevirtual 73, 3) := by decide +kernel
theorem dX6_getsOn_22 : decode cX6_getsOn 22 = .ok (.ifCond .eq 7, 3) := by decide +kernel
theorem dX6_getsOn_25 : decode cX6_getsOn 25 = .ok (.iload_n 2, 1) := by decide +kernel
theorem dX6_getsOn_26 : decode cX6_getsOn 26 = .ok (.goto 4, 3) := by decide +kernel
theorem dX6_getsOn_29 : decode cX6_getsOn 29 = .ok (.iload_n 1, 1) := by decide +kernel
theorem dX6_getsOn_30 : decode cX6_getsOn 30 = .ok (.istore_n 1, 1) := by decide +kernel
theorem dX6_getsOn_31 : decode cX6_getsOn 31 = .ok (.iinc 2 (-1), 3) := by decide +kernel
theorem dX6_getsOn_34 : decode cX6_getsOn 34 = .ok (.goto (-21), 3) := by decide +kernel
theorem dX6_getsOn_37 : decode cX6_getsOn 37 = .ok (.iload_n 1, 1) := by decide +kernel
theorem dX6_getsOn_38 : decode cX6_getsOn 38 = .ok (.bipush (-6), 2) := by decide +kernel
theorem dX6_getsOn_40 : decode cX6_getsOn 40 = .ok (.if_icmp .eq 32, 3) := by decide +kernel
theorem dX6_getsOn_43 : decode cX6_getsOn 43 = .ok (.aload_n 0, 1) := by decide +kernel
theorem dX6_getsOn_44 : decode cX6_getsOn 44 = .ok (.getfield 7, 3) := by decide +kernel
theorem dX6_getsOn_47 : decode cX6_getsOn 47 = .ok (.sipush 295, 3) := by decide +kernel
theorem dX6_getsOn_50 : decode cX6_getsOn 50 = .ok (.iload_n 1, 1) := by decide +kernel
theorem dX6_getsOn_51 : decode cX6_getsOn 51 = .ok (.iastore, 1) := by decide +kernel
theorem dX6_getsOn_52 : decode cX6_getsOn 52 = .ok (.aload_n 0, 1) := by decide +kernel
theorem dX6_getsOn_53 : decode cX6_getsOn 53 = .ok (.getfield 7, 3) := by decide +kernel
theorem dX6_getsOn_56 : decode cX6_getsOn 56 = .ok (.sipush 296, 3) := by decide +kernel
theorem dX6_getsOn_59 : decode cX6_getsOn 59 = .ok (.aload_n 0, 1) := by decide +kernel
theorem dX6_getsOn_60 : decode cX6_getsOn 60 = .ok (.getfield 7, 3) := by decide +kernel
theorem dX6_getsOn_63 : decode cX6_getsOn 63 = .ok (.iconst 2, 1) := by decide +kernel
theorem dX6_getsOn_64 : decode cX6_getsOn 64 = .ok (.iaload, 1) := by decide +kernel
theorem dX6_getsOn_65 : decode cX6_getsOn 65 = .ok (.iastore, 1) := by decide +kernel
theorem dX6_getsOn_66 : decode cX6_getsOn 66 = .ok (.aload_n 0, 1) := by decide +kernel
theorem dX6_getsOn_67 : decode cX6_getsOn 67 = .ok (.iload_n 1, 1) := by decide +kernel
theorem dX6_getsOn_68 : decode cX6_getsOn 68 = .ok (.iconst 1, 1) := by decide +kernel
theorem dX6_getsOn_69 : decode cX6_getsOn 69 = .ok (.invokevirtual 39, 3) := by decide +kernel
theorem dX6_getsOn_72 : decode cX6_getsOn 72 = .ok (.return_, 1) := by decide +kernel
theorem dX6_tick_0 : decode cX6_tick 0 = .ok (.iconst 0, 1) := by decide +kernel
theorem dX6_tick_1 : decode cX6_tick 1 = .ok (.istore_n 1, 1) := by decide +kernel
theorem dX6_tick_2 : decode cX6_tick 2 = .ok (.iconst 0, 1) := by decide +kernel
theorem dX6_tick_3 : decode cX6_tick 3 = .ok (.istore_n 2, 1) := by decide +kernel
theorem dX6_tick_4 : decode cX6_tick 4 = .ok (.iload_n 2, 1) := by decide +kernel
theorem dX6_tick_5 : decode cX6_tick 5 = .ok (.iconst 5, 1) := by decide +kernel
theorem dX6_tick_6 : decode cX6_tick 6 = .ok (.if_icmp .ge 64, 3) := by decide +kernel
theorem dX6_tick_9 : decode cX6_tick 9 = .ok (.aload_n 0, 1) := by decide +kernel
theorem dX6_tick_10 : decode cX6_tick 10 = .ok (.iload_n 2, 1) := by decide +kernel
theorem dX6_tick_11 : decode cX6_tick 11 = .ok (.invokevirtual 76, 3) := by decide +kernel
theorem dX6_tick_14 : decode cX6_tick 14 = .ok (.istore_n 3, 1) := by decide +kernel
theorem dX6_tick_15 : decode cX6_tick 15 = .ok (.iload_n 3, 1) := by decide +kernel
theorem dX6_tick_16 : decode cX6_tick 16 = .ok (.bipush (-6), 2) := by decide +kernel
theorem dX6_tick_18 : decode cX6_tick 18 = .ok (.if_icmp .eq 28, 3) := by decide +kernel
theorem dX6_tick_21 : decode cX6_tick 21 = .ok (.aload_n 0, 1) := by decide +kernel
theorem dX6_tick_22 : decode cX6_tick 22 = .ok (.getfield 7, 3) := by decide +kernel
theorem dX6_tick_25 : decode cX6_tick 25 = .ok (.iload_n 3, 1) := by decide +kernel
theorem dX6_tick_26 : decode cX6_tick 26 = .ok (.iconst 4, 1) := by decide +kernel
theorem dX6_tick_27 : decode cX6_tick 27 = .ok (.invokestatic 58, 3) := by decide +kernel
theorem dX6_tick_30 : decode cX6_tick 30 = .ok (.iaload, 1) := by decide +kernel
theorem dX6_tick_31 : decode cX6_tick 31 = .ok (.ifCond .eq 15, 3) := by decide +kernel
theorem dX6_tick_34 : decode cX6_tick 34 = .ok (.aload_n 0, 1) := by decide +kernel
theorem dX6_tick_35 : decode cX6_tick 35 = .ok (.iload_n 3, 1) := by decide +kernel
theorem dX6_tick_36 : decode cX6_tick 36 = .ok (.invokevirtual 79, 3) := by decide +kernel
theorem dX6_tick_39 : decode cX6_tick 39 = .ok (.ifCond .eq 7, 3) := by decide +kernel
theorem dX6_tick_42 : decode cX6_tick 42 = .ok (.iconst 1, 1) := by decide +kernel
theorem dX6_tick_43 : decode cX6_tick 43 = .ok (.goto 4, 3) := by decide +kernel
theorem dX6_tick_46 : decode cX6_tick 46 = .ok (.iconst 0, 1) := by decide +kernel
theorem dX6_tick_47 : decode cX6_tick 47 = .ok (.istore 4, 2) := by decide +kernel
theorem dX6_tick_49 : decode cX6_tick 49 = .ok (.iload_n 1, 1) := by decide +kernel
theorem dX6_tick_50 : decode cX6_tick 50 = .ok (.ifCond .ne 8, 3) := by decide +kernel
theorem dX6_tick_53 : decode cX6_tick 53 = .ok (.iload 4, 2) := by decide +kernel
theorem dX6_tick_55 : decode cX6_tick 55 = .ok (.ifCond .eq 7, 3) := by decide +kernel
theorem dX6_tick_58 : decode cX6_tick 58 = .ok (.iconst 1, 1) := by decide +kernel
theorem dX6_tick_59 : decode cX6_tick 59 = .ok (.goto 4, 3) := by decide +kernel
theorem dX6_tick_62 : decode cX6_tick 62 = .ok (.iconst 0, 1) := by decide +kernel
theorem dX6_tick_63 : decode cX6_tick 63 = .ok (.istore_n 1, 1) := by decide +kernel
theorem dX6_tick_64 : decode cX6_tick 64 = .ok (.iinc 2 1, 3) := by decide +kernel
theorem dX6_tick_67 : decode cX6_tick 67 = .ok (.goto (-63), 3) := by decide +kernel
theorem dX6_tick_70 : decode cX6_tick 70 = .ok (.aload_n 0, 1) := by decide +kernel
theorem dX6_tick_71 : decode cX6_tick 71 = .ok (.getfield 7, 3) := by decide +kernel
theorem dX6_tick_74 : decode cX6_tick 74 = .ok (.sipush 298, 3) := by decide +kernel
theorem dX6_tick_77 : decode cX6_tick 77 = .ok (.dup2, 1) := by decide +kernel
theorem dX6_tick_78 : decode cX6_tick 78 = .ok (.iaload, 1) := by decide +kernel
theorem dX6_tick_79 : decode cX6_tick 79 = .ok (.iload_n 1, 1) := by decide +kernel
theorem dX6_tick_80 : decode cX6_tick 80 = .ok (.ifCond .eq 7, 3) := by decide +kernel
theorem dX6_tick_83 : decode cX6_tick 83 = .ok (.iconst 1, 1) := by decide +kernel
theorem dX6_tick_84 : decode cX6_tick 84 = .ok (.goto 4, 3) := by decide +kernel
theorem dX6_tick_87 : decode cX6_tick 87 = .ok (.iconst 0, 1) := by decide +kernel
theorem dX6_tick_88 : decode cX6_tick 88 = .ok (.iadd, 1) := by decide +kernel
theorem dX6_tick_89 : decode cX6_tick 89 = .ok (.iastore, 1) := by decide +kernel
theorem dX6_tick_90 : decode cX6_tick 90 = .ok (.iconst 0, 1) := by decide +kernel
theorem dX6_tick_91 : decode cX6_tick 91 = .ok (.istore_n 2, 1) := by decide +kernel
theorem dX6_tick_92 : decode cX6_tick 92 = .ok (.iload_n 2, 1) := by decide +kernel
theorem dX6_tick_93 : decode cX6_tick 93 = .ok (.iconst 5, 1) := by decide +kernel
theorem dX6_tick_94 : decode cX6_tick 94 = .ok (.if_icmp .ge 28, 3) := by decide +kernel
theorem dX6_tick_97 : decode cX6_tick 97 = .ok (.aload_n 0, 1) := by decide +kernel
theorem dX6_tick_98 : decode cX6_tick 98 = .ok (.iload_n 2, 1) := by decide +kernel
theorem dX6_tick_99 : decode cX6_tick 99 = .ok (.invokevirtual 76, 3) := by decide +kernel
theorem dX6_tick_102 : decode cX6_tick 102 = .ok (.bipush (-6), 2) := by decide +kernel
theorem dX6_tick_104 : decode cX6_tick 104 = .ok (.if_icmp .eq 12, 3) := by decide +kernel
theorem dX6_tick_107 : decode cX6_tick 107 = .ok (.aload_n 0, 1) := by decide +kernel
theorem dX6_tick_108 : decode cX6_tick 108 = .ok (.aload_n 0, 1) := by decide +kernel
theorem dX6_tick_109 : decode cX6_tick 109 = .ok (.iload_n 2, 1) := by decide +kernel
theorem dX6_tick_110 : decode cX6_tick 110 = .ok (.invokevirtual 76, 3) := by decide +kernel
theorem dX6_tick_113 : decode cX6_tick 113 = .ok (.invokevirtual 82, 3) := by decide +kernel
theorem dX6_tick_116 : decode cX6_tick 116 = .ok (.iinc 2 1, 3) := by decide +kernel
theorem dX6_tick_119 : decode cX6_tick 119 = .ok (.goto (-27), 3) := by decide +kernel
theorem dX6_tick_122 : decode cX6_tick 122 = .ok (.iconst 0, 1) := by decide +kernel
theorem dX6_tick_123 : decode cX6_tick 123 = .ok (.istore_n 2, 1) := by decide +kernel
theorem dX6_tick_124 : decode cX6_tick 124 = .ok (.iload_n 2, 1) := by decide +kernel
theorem dX6_tick_125 : decode cX6_tick 125 = .ok (.aload_n 0, 1) := by decide +kernel
theorem dX6_tick_126 : decode cX6_tick 126 = .ok (.getfield 7, 3) := by decide +kernel
theorem dX6_tick_129 : decode cX6_tick 129 = .ok (.iconst 5, 1) := by decide +kernel
theorem dX6_tick_130 : decode cX6_tick 130 = .ok (.iaload, 1) := by decide +kernel
theorem dX6_tick_131 : decode cX6_tick 131 = .ok (.if_icmp .ge 14, 3) := by decide +kernel
theorem dX6_tick_134 : decode cX6_tick 134 = .ok (.aload_n 0, 1) := by decide +kernel
theorem dX6_tick_135 : decode cX6_tick 135 = .ok (.iload_n 2, 1) := by decide +kernel
theorem dX6_tick_136 : decode cX6_tick 136 = .ok (.invokevirtual 85, 3) := by decide +kernel
theorem dX6_tick_139 : decode cX6_tick 139 = .ok (.iinc 2 1, 3) := by decide +kernel
theorem dX6_tick_142 : decode cX6_tick 142 = .ok (.goto (-18), 3) := by decide +kernel
theorem dX6_tick_145 : decode cX6_tick 145 = .ok (.aload_n 0, 1) := by decide +kernel
theorem dX6_tick_146 : decode cX6_tick 146 = .ok (.iload_n 1, 1) := by decide +kernel
theorem dX6_tick_147 : decode cX6_tick 147 = .ok (.invokevirtual 88, 3) := by decide +kernel
theorem dX6_tick_150 : decode cX6_tick 150 = .ok (.aload_n 0, 1) := by decide +kernel
theorem dX6_tick_151 : decode cX6_tick 151 = .ok (.getfield 7, 3) := by decide +kernel
theorem dX6_tick_154 : decode cX6_tick 154 = .ok (.sipush 295, 3) := by decide +kernel
theorem dX6_tick_157 : decode cX6_tick 157 = .ok (.iaload, 1) := by decide +kernel
theorem dX6_tick_158 : decode cX6_tick 158 = .ok (.bipush (-6), 2) := by decide +kernel
theorem dX6_tick_160 : decode cX6_tick 160 = .ok (.if_icmp .ne 14, 3) := by decide +kernel
theorem dX6_tick_163 : decode cX6_tick 163 = .ok (.aload_n 0, 1) := by decide +kernel
theorem dX6_tick_164 : decode cX6_tick 164 = .ok (.invokevirtual 92, 3) := by decide +kernel
theorem dX6_tick_167 : decode cX6_tick 167 = .ok (.ifCond .ne 7, 3) := by decide +kernel
theorem dX6_tick_170 : decode cX6_tick 170 = .ok (.aload_n 0, 1) := by decide +kernel
theorem dX6_tick_171 : decode cX6_tick 171 = .ok (.invokevirtual 96, 3) := by decide +kernel
theorem dX6_tick_174 : decode cX6_tick 174 = .ok (.aload_n 0, 1) := by decide +kernel
theorem dX6_tick_175 : decode cX6_tick 175 = .ok (.getfield 7, 3) := by decide +kernel
theorem dX6_tick_178 : decode cX6_tick 178 = .ok (.sipush 297, 3) := by decide +kernel
theorem dX6_tick_181 : decode cX6_tick 181 = .ok (.dup2, 1) := by decide +kernel
theorem dX6_tick_182 : decode cX6_tick 182 = .ok (.iaload, 1) := by decide +kernel
theorem dX6_tick_183 : decode cX6_tick 183 = .ok (.iconst 1, 1) := by decide +kernel
theorem dX6_tick_184 : decode cX6_tick 184 = .ok (.iadd, 1) := by decide +kernel
theorem dX6_tick_185 : decode cX6_tick 185 = .ok (.iastore, 1) := by decide +kernel
theorem dX6_tick_186 : decode cX6_tick 186 = .ok (.return_, 1) := by decide +kernel
theorem dX6_passes_0 : decode cX6_passes 0 = .ok (.iload_n 1, 1) := by decide +kernel
theorem dX6_passes_1 : decode cX6_passes 1 = .ok (.iconst 1, 1) := by decide +kernel
theorem dX6_passes_2 : decode cX6_passes 2 = .ok (.bipush 99, 2) := by decide +kernel
theorem dX6_passes_4 : decode cX6_passes 4 = .ok (.invokestatic 25, 3) := by decide +kernel
theorem dX6_passes_7 : decode cX6_passes 7 = .ok (.ifCond .ne 6, 3) := by decide +kernel
theorem dX6_passes_10 : decode cX6_passes 10 = .ok (.bipush (-2), 2) := by decide +kernel
theorem dX6_passes_12 : decode cX6_passes 12 = .ok (.ireturn, 1) := by decide +kernel
theorem dX6_passes_13 : decode cX6_passes 13 = .ok (.aload_n 0, 1) := by decide +kernel
theorem dX6_passes_14 : decode cX6_passes 14 = .ok (.getfield 7, 3) := by decide +kernel
theorem dX6_passes_17 : decode cX6_passes 17 = .ok (.sipush 297, 3) := by decide +kernel
theorem dX6_passes_20 : decode cX6_passes 20 = .ok (.iaload, 1) := by decide +kernel
theorem dX6_passes_21 : decode cX6_passes 21 = .ok (.iload_n 1, 1) := by decide +kernel
theorem dX6_passes_22 : decode cX6_passes 22 = .ok (.iadd, 1) := by decide +kernel
theorem dX6_passes_23 : decode cX6_passes 23 = .ok (.sipush 9999, 3) := by decide +kernel
theorem dX6_passes_26 : decode cX6_passes 26 = .ok (.if_icmp .le 6, 3) := by decide +kernel
theorem dX6_passes_29 : decode cX6_passes 29 = .ok (.bipush (-5), 2) := by decide +kernel
theorem dX6_passes_31 : decode cX6_passes 31 = .ok (.ireturn, 1) := by decide +kernel
theorem dX6_passes_32 : decode cX6_passes 32 = .ok (.aload_n 0, 1) := by decide +kernel
theorem dX6_passes_33 : decode cX6_passes 33 = .ok (.getfield 7, 3) := by decide +kernel
theorem dX6_passes_36 : decode cX6_passes 36 = .ok (.sipush 300, 3) := by decide +kernel
theorem dX6_passes_39 : decode cX6_passes 39 = .ok (.iaload, 1) := by decide +kernel
theorem dX6_passes_40 : decode cX6_passes 40 = .ok (.istore_n 2, 1) := by decide +kernel
theorem dX6_passes_41 : decode cX6_passes 41 = .ok (.iconst 0, 1) := by decide +kernel
theorem dX6_passes_42 : decode cX6_passes 42 = .ok (.istore_n 3, 1) := by decide +kernel
theorem dX6_passes_43 : decode cX6_passes 43 = .ok (.iload_n 3, 1) := by decide +kernel
theorem dX6_passes_44 : decode cX6_passes 44 = .ok (.iload_n 1, 1) := by decide +kernel
theorem dX6_passes_45 : decode cX6_passes 45 = .ok (.if_icmp .ge 13, 3) := by decide +kernel
theorem dX6_passes_48 : decode cX6_passes 48 = .ok (.aload_n 0, 1) := by decide +kernel
theorem dX6_passes_49 : decode cX6_passes 49 = .ok (.invokevirtual 99, 3) := by decide +kernel
theorem dX6_passes_52 : decode cX6_passes 52 = .ok (.iinc 3 1, 3) := by decide +kernel
theorem dX6_passes_55 : decode cX6_passes 55 = .ok (.goto (-12), 3) := by decide +kernel
theorem dX6_passes_58 : decode cX6_passes 58 = .ok (.aload_n 0, 1) := by decide +kernel
theorem dX6_passes_59 : decode cX6_passes 59 = .ok (.getfield 7, 3) := by decide +kernel
theorem dX6_passes_62 : decode cX6_passes 62 = .ok (.sipush 300, 3) := by decide +kernel
theorem dX6_passes_65 : decode cX6_passes 65 = .ok (.iaload, 1) := by decide +kernel
theorem dX6_passes_66 : decode cX6_passes 66 = .ok (.iload_n 2, 1) := by decide +kernel
theorem dX6_passes_67 : decode cX6_passes 67 = .ok (.isub, 1) := by decide +kernel
theorem dX6_passes_68 : decode cX6_passes 68 = .ok (.ireturn, 1) := by decide +kernel
theorem dX6_least_0 : decode cX6_least 0 = .ok (.iload_n 0, 1) := by decide +kernel
theorem dX6_least_1 : decode cX6_least 1 = .ok (.ifCond .ne 7, 3) := by decide +kernel
theorem dX6_least_4 : decode cX6_least 4 = .ok (.iconst 0, 1) := by decide +kernel
theorem dX6_least_5 : decode cX6_least 5 = .ok (.goto 14, 3) := by decide +kernel
theorem dX6_least_8 : decode cX6_least 8 = .ok (.iload_n 0, 1) := by decide +kernel
theorem dX6_least_9 : decode cX6_least 9 = .ok (.iconst 4, 1) := by decide +kernel
theorem dX6_least_10 : decode cX6_least 10 = .ok (.if_icmp .ne 8, 3) := by decide +kernel
theorem dX6_least_13 : decode cX6_least 13 = .ok (.bipush 10, 2) := by decide +kernel
theorem dX6_least_15 : decode cX6_least 15 = .ok (.goto 4, 3) := by decide +kernel
theorem dX6_least_18 : decode cX6_least 18 = .ok (.iconst 1, 1) := by decide +kernel
theorem dX6_least_19 : decode cX6_least 19 = .ok (.ireturn, 1) := by decide +kernel
theorem dX6_most_0 : decode cX6_most 0 = .ok (.iload_n 0, 1) := by decide +kernel
theorem dX6_most_1 : decode cX6_most 1 = .ok (.ifCond .ne 7, 3) := by decide +kernel
theorem dX6_most_4 : decode cX6_most 4 = .ok (.iconst 1, 1) := by decide +kernel
theorem dX6_most_5 : decode cX6_most 5 = .ok (.goto 26, 3) := by decide +kernel
theorem dX6_most_8 : decode cX6_most 8 = .ok (.iload_n 0, 1) := by decide +kernel
theorem dX6_most_9 : decode cX6_most 9 = .ok (.iconst 1, 1) := by decide +kernel
theorem dX6_most_10 : decode cX6_most 10 = .ok (.if_icmp .ne 8, 3) := by decide +kernel
theorem dX6_most_13 : decode cX6_most 13 = .ok (.bipush 50, 2) := by decide +kernel
theorem dX6_most_15 : decode cX6_most 15 = .ok (.goto 16, 3) := by decide +kernel
theorem dX6_most_18 : decode cX6_most 18 = .ok (.iload_n 0, 1) := by decide +kernel
theorem dX6_most_19 : decode cX6_most 19 = .ok (.iconst 4, 1) := by decide +kernel
theorem dX6_most_20 : decode cX6_most 20 = .ok (.if_icmp .ne 9, 3) := by decide +kernel
theorem dX6_most_23 : decode cX6_most 23 = .ok (.sipush 300, 3) := by decide +kernel
theorem dX6_most_26 : decode cX6_most 26 = .ok (.goto 5, 3) := by decide +kernel
theorem dX6_most_29 : decode cX6_most 29 = .ok (.bipush 9, 2) := by decide +kernel
theorem dX6_most_31 : decode cX6_most 31 = .ok (.ireturn, 1) := by decide +kernel
theorem dX6_set_0 : decode cX6_set 0 = .ok (.aload_n 0, 1) := by decide +kernel
theorem dX6_set_1 : decode cX6_set 1 = .ok (.invokevirtual 102, 3) := by decide +kernel
theorem dX6_set_4 : decode cX6_set 4 = .ok (.iload_n 1, 1) := by decide +kernel
theorem dX6_set_5 : decode cX6_set 5 = .ok (.iconst 0, 1) := by decide +kernel
theorem dX6_set_6 : decode cX6_set 6 = .ok (.iconst 4, 1) := by decide +kernel
theorem dX6_set_7 : decode cX6_set 7 = .ok (.invokestatic 25, 3) := by decide +kernel
theorem dX6_set_10 : decode cX6_set 10 = .ok (.ifCond .eq 18, 3) := by decide +kernel
theorem dX6_set_13 : decode cX6_set 13 = .ok (.iload_n 2, 1) := by decide +kernel
theorem dX6_set_14 : decode cX6_set 14 = .ok (.iload_n 1, 1) := by decide +kernel
theorem dX6_set_15 : decode cX6_set 15 = .ok (.invokestatic 105, 3) := by decide +kernel
theorem dX6_set_18 : decode cX6_set 18 = .ok (.iload_n 1, 1) := by decide +kernel
theorem dX6_set_19 : decode cX6_set 19 = .ok (.invokestatic 108, 3) := by decide +kernel
theorem dX6_set_22 : decode cX6_set 22 = .ok (.invokestatic 25, 3) := by decide +kernel
theorem dX6_set_25 : decode cX6_set 25 = .ok (.ifCond .ne 6, 3) := by decide +kernel
theorem dX6_set_28 : decode cX6_set 28 = .ok (.bipush (-2), 2) := by decide +kernel
theorem dX6_set_30 : decode cX6_set 30 = .ok (.ireturn, 1) := by decide +kernel
theorem dX6_set_31 : decode cX6_set 31 = .ok (.aload_n 0, 1) := by decide +kernel
theorem dX6_set_32 : decode cX6_set 32 = .ok (.getfield 7, 3) := by decide +kernel
theorem dX6_set_35 : decode cX6_set 35 = .ok (.iload_n 1, 1) := by decide +kernel
theorem dX6_set_36 : decode cX6_set 36 = .ok (.iaload, 1) := by decide +kernel
theorem dX6_set_37 : decode cX6_set 37 = .ok (.istore_n 3, 1) := by decide +kernel
theorem dX6_set_38 : decode cX6_set 38 = .ok (.aload_n 0, 1) := by decide +kernel
theorem dX6_set_39 : decode cX6_set 39 = .ok (.getfield 7, 3) := by decide +kernel
theorem dX6_set_42 : decode cX6_set 42 = .ok (.iload_n 1, 1) := by decide +kernel
theorem dX6_set_43 : decode cX6_set 43 = .ok (.iload_n 2, 1) := by decide +kernel
theorem dX6_set_44 : decode cX6_set 44 = .ok (.iastore, 1) := by decide +kernel
theorem dX6_set_45 : decode cX6_set 45 = .ok (.aload_n 0, 1) := by decide +kernel
theorem dX6_set_46 : decode cX6_set 46 = .ok (.iload_n 3, 1) := by decide +kernel
theorem dX6_set_47 : decode cX6_set 47 = .ok (.invokevirtual 111, 3) := by decide +kernel
theorem dX6_set_50 : decode cX6_set 50 = .ok (.ireturn, 1) := by decide +kernel
theorem dX6_comes_0 : decode cX6_comes 0 = .ok (.iload_n 1, 1) := by decide +kernel
theorem dX6_comes_1 : decode cX6_comes 1 = .ok (.iconst 0, 1) := by decide +kernel
theorem dX6_comes_2 : decode cX6_comes 2 = .ok (.bipush 99, 2) := by decide +kernel
theorem dX6_comes_4 : decode cX6_comes 4 = .ok (.invokestatic 25, 3) := by decide +kernel
theorem dX6_comes_7 : decode cX6_comes 7 = .ok (.ifCond .eq 13, 3) := by decide +kernel
theorem dX6_comes_10 : decode cX6_comes 10 = .ok (.iload_n 2, 1) := by decide +kernel
theorem dX6_comes_11 : decode cX6_comes 11 = .ok (.iconst 1, 1) := by decide +kernel
theorem dX6_comes_12 : decode cX6_comes 12 = .ok (.bipush 60, 2) := by decide +kernel
theorem dX6_comes_14 : decode cX6_comes 14 = .ok (.invokestatic 25, 3) := by decide +kernel
theorem dX6_comes_17 : decode cX6_comes 17 = .ok (.ifCond .ne 6, 3) := by decide +kernel
theorem dX6_comes_20 : decode cX6_comes 20 = .ok (.bipush (-2), 2) := by decide +kernel
theorem dX6_comes_22 : decode cX6_comes 22 = .ok (.ireturn, 1) := by decide +kernel
theorem dX6_comes_23 : decode cX6_comes 23 = .ok (.aload_n 0, 1) := by decide +kernel
theorem dX6_comes_24 : decode cX6_comes 24 = .ok (.getfield 7, 3) := by decide +kernel
theorem dX6_comes_27 : decode cX6_comes 27 = .ok (.iconst 5, 1) := by decide +kernel
theorem dX6_comes_28 : decode cX6_comes 28 = .ok (.iaload, 1) := by decide +kernel
theorem dX6_comes_29 : decode cX6_comes 29 = .ok (.bipush 8, 2) := by decide +kernel
theorem dX6_comes_31 : decode cX6_comes 31 = .ok (.if_icmp .ne 6, 3) := by decide +kernel
theorem dX6_comes_34 : decode cX6_comes 34 = .ok (.bipush (-4), 2) := by decide +kernel
theorem dX6_comes_36 : decode cX6_comes 36 = .ok (.ireturn, 1) := by decide +kernel
theorem dX6_comes_37 : decode cX6_comes 37 = .ok (.aload_n 0, 1) := by decide +kernel
theorem dX6_comes_38 : decode cX6_comes 38 = .ok (.getfield 7, 3) := by decide +kernel
theorem dX6_comes_41 : decode cX6_comes 41 = .ok (.iconst 5, 1) := by decide +kernel
theorem dX6_comes_42 : decode cX6_comes 42 = .ok (.iaload, 1) := by decide +kernel
theorem dX6_comes_43 : decode cX6_comes 43 = .ok (.istore_n 3, 1) := by decide +kernel
theorem dX6_comes_44 : decode cX6_comes 44 = .ok (.aload_n 0, 1) := by decide +kernel
theorem dX6_comes_45 : decode cX6_comes 45 = .ok (.getfield 7, 3) := by decide +kernel
theorem dX6_comes_48 : decode cX6_comes 48 = .ok (.iconst 5, 1) := by decide +kernel
theorem dX6_comes_49 : decode cX6_comes 49 = .ok (.dup2, 1) := by decide +kernel
theorem dX6_comes_50 : decode cX6_comes 50 = .ok (.iaload, 1) := by decide +kernel
theorem dX6_comes_51 : decode cX6_comes 51 = .ok (.iconst 1, 1) := by decide +kernel
theorem dX6_comes_52 : decode cX6_comes 52 = .ok (.iadd, 1) := by decide +kernel
theorem dX6_comes_53 : decode cX6_comes 53 = .ok (.iastore, 1) := by decide +kernel
theorem dX6_comes_54 : decode cX6_comes 54 = .ok (.aload_n 0, 1) := by decide +kernel
theorem dX6_comes_55 : decode cX6_comes 55 = .ok (.getfield 7, 3) := by decide +kernel
theorem dX6_comes_58 : decode cX6_comes 58 = .ok (.iload_n 3, 1) := by decide +kernel
theorem dX6_comes_59 : decode cX6_comes 59 = .ok (.iconst 0, 1) := by decide +kernel
theorem dX6_comes_60 : decode cX6_comes 60 = .ok (.invokestatic 58, 3) := by decide +kernel
theorem dX6_comes_63 : decode cX6_comes 63 = .ok (.iload_n 1, 1) := by decide +kernel
theorem dX6_comes_64 : decode cX6_comes 64 = .ok (.iastore, 1) := by decide +kernel
theorem dX6_comes_65 : decode cX6_comes 65 = .ok (.aload_n 0, 1) := by decide +kernel
theorem dX6_comes_66 : decode cX6_comes 66 = .ok (.getfield 7, 3) := by decide +kernel
theorem dX6_comes_69 : decode cX6_comes 69 = .ok (.iload_n 3, 1) := by decide +kernel
theorem dX6_comes_70 : decode cX6_comes 70 = .ok (.iconst 1, 1) := by decide +kernel
theorem dX6_comes_71 : decode cX6_comes 71 = .ok (.invokestatic 58, 3) := by decide +kernel
theorem dX6_comes_74 : decode cX6_comes 74 = .ok (.iload_n 2, 1) := by decide +kernel
theorem dX6_comes_75 : decode cX6_comes 75 = .ok (.iastore, 1) := by decide +kernel
theorem dX6_comes_76 : decode cX6_comes 76 = .ok (.aload_n 0, 1) := by decide +kernel
theorem dX6_comes_77 : decode cX6_comes 77 = .ok (.getfield 7, 3) := by decide +kernel
theorem dX6_comes_80 : decode cX6_comes 80 = .ok (.iload_n 3, 1) := by decide +kernel
theorem dX6_comes_81 : decode cX6_comes 81 = .ok (.iconst 2, 1) := by decide +kernel
theorem dX6_comes_82 : decode cX6_comes 82 = .ok (.invokestatic 58, 3) := by decide +kernel
theorem dX6_comes_85 : decode cX6_comes 85 = .ok (.bipush (-6), 2) := by decide +kernel
theorem dX6_comes_87 : decode cX6_comes 87 = .ok (.iastore, 1) := by decide +kernel
theorem dX6_comes_88 : decode cX6_comes 88 = .ok (.iload_n 3, 1) := by decide +kernel
theorem dX6_comes_89 : decode cX6_comes 89 = .ok (.ireturn, 1) := by decide +kernel
theorem dX6_board_0 : decode cX6_board 0 = .ok (.aload_n 0, 1) := by decide +kernel
theorem dX6_board_1 : decode cX6_board 1 = .ok (.invokevirtual 102, 3) := by decide +kernel
theorem dX6_board_4 : decode cX6_board 4 = .ok (.aload_n 0, 1) := by decide +kernel
theorem dX6_board_5 : decode cX6_board 5 = .ok (.aload_n 0, 1) := by decide +kernel
theorem dX6_board_6 : decode cX6_board 6 = .ok (.iload_n 1, 1) := by decide +kernel
theorem dX6_board_7 : decode cX6_board 7 = .ok (.iload_n 2, 1) := by decide +kernel
theorem dX6_board_8 : decode cX6_board 8 = .ok (.invokevirtual 114, 3) := by decide +kernel
theorem dX6_board_11 : decode cX6_board 11 = .ok (.invokevirtual 111, 3) := by decide +kernel
theorem dX6_board_14 : decode cX6_board 14 = .ok (.ireturn, 1) := by decide +kernel
theorem dX6_plugs_0 : decode cX6_plugs 0 = .ok (.aload_n 0, 1) := by decide +kernel
theorem dX6_plugs_1 : decode cX6_plugs 1 = .ok (.iload_n 1, 1) := by decide +kernel
theorem dX6_plugs_2 : decode cX6_plugs 2 = .ok (.invokevirtual 117, 3) := by decide +kernel
theorem dX6_plugs_5 : decode cX6_plugs 5 = .ok (.ifCond .eq 10, 3) := by decide +kernel
theorem dX6_plugs_8 : decode cX6_plugs 8 = .ok (.iload_n 2, 1) := by decide +kernel
theorem dX6_plugs_9 : decode cX6_plugs 9 = .ok (.invokestatic 120, 3) := by decide +kernel
theorem dX6_plugs_12 : decode cX6_plugs 12 = .ok (.ifCond .ne 5, 3) := by decide +kernel
theorem dX6_plugs_15 : decode cX6_plugs 15 = .ok (.iconst (-1), 1) := by decide +kernel
theorem dX6_plugs_16 : decode cX6_plugs 16 = .ok (.ireturn, 1) := by decide +kernel
theorem dX6_plugs_17 : decode cX6_plugs 17 = .ok (.iload_n 3, 1) := by decide +kernel
theorem dX6_plugs_18 : decode cX6_plugs 18 = .ok (.iconst 1, 1) := by decide +kernel
theorem dX6_plugs_19 : decode cX6_plugs 19 = .ok (.bipush 24, 2) := by decide +kernel
theorem dX6_plugs_21 : decode cX6_plugs 21 = .ok (.invokestatic 25, 3) := by decide +kernel
theorem dX6_plugs_24 : decode cX6_plugs 24 = .ok (.ifCond .ne 6, 3) := by decide +kernel
theorem dX6_plugs_27 : decode cX6_plugs 27 = .ok (.bipush (-2), 2) := by decide +kernel
theorem dX6_plugs_29 : decode cX6_plugs 29 = .ok (.ireturn, 1) := by decide +kernel
theorem dX6_plugs_30 : decode cX6_plugs 30 = .ok (.aload_n 0, 1) := by decide +kernel
theorem dX6_plugs_31 : decode cX6_plugs 31 = .ok (.iload_n 2, 1) := by decide +kernel
theorem dX6_plugs_32 : decode cX6_plugs 32 = .ok (.invokevirtual 76, 3) := by decide +kernel
theorem dX6_plugs_35 : decode cX6_plugs 35 = .ok (.istore 4, 2) := by decide +kernel
theorem dX6_plugs_37 : decode cX6_plugs 37 = .ok (.aload_n 0, 1) := by decide +kernel
theorem dX6_plugs_38 : decode cX6_plugs 38 = .ok (.getfield 7, 3) := by decide +kernel
theorem dX6_plugs_41 : decode cX6_plugs 41 = .ok (.iload_n 1, 1) := by decide +kernel
theorem dX6_plugs_42 : decode cX6_plugs 42 = .ok (.iconst 2, 1) := by decide +kernel
theorem dX6_plugs_43 : decode cX6_plugs 43 = .ok (.invokestatic 58, 3) := by decide +kernel
theorem dX6_plugs_46 : decode cX6_plugs 46 = .ok (.iaload, 1) := by decide +kernel
theorem dX6_plugs_47 : decode cX6_plugs 47 = .ok (.istore 5, 2) := by decide +kernel
theorem dX6_plugs_49 : decode cX6_plugs 49 = .ok (.iload 5, 2) := by decide +kernel
theorem dX6_plugs_51 : decode cX6_plugs 51 = .ok (.iload_n 2, 1) := by decide +kernel
theorem dX6_plugs_52 : decode cX6_plugs 52 = .ok (.if_icmp .eq 17, 3) := by decide +kernel
theorem dX6_plugs_55 : decode cX6_plugs 55 = .ok (.iload 5, 2) := by decide +kernel
theorem dX6_plugs_57 : decode cX6_plugs 57 = .ok (.bipush (-6), 2) := by decide +kernel
theorem dX6_plugs_59 : decode cX6_plugs 59 = .ok (.if_icmp .ne 14, 3) := by decide +kernel
theorem dX6_plugs_62 : decode cX6_plugs 62 = .ok (.iload 4, 2) := by decide +kernel
theorem dX6_plugs_64 : decode cX6_plugs 64 = .ok (.bipush (-6), 2) := by decide +kernel
theorem dX6_plugs_66 : decode cX6_plugs 66 = .ok (.if_icmp .ne 7, 3) := by decide +kernel
theorem dX6_plugs_69 : decode cX6_plugs 69 = .ok (.iconst 1, 1) := by decide +kernel
theorem dX6_plugs_70 : decode cX6_plugs 70 = .ok (.goto 4, 3) := by decide +kernel
theorem dX6_plugs_73 : decode cX6_plugs 73 = .ok (.iconst 0, 1) := by decide +kernel
theorem dX6_plugs_74 : decode cX6_plugs 74 = .ok (.istore 6, 2) := by decide +kernel
theorem dX6_plugs_76 : decode cX6_plugs 76 = .ok (.iload 6, 2) := by decide +kernel
theorem dX6_plugs_78 : decode cX6_plugs 78 = .ok (.ifCond .eq 18, 3) := by decide +kernel
theorem dX6_plugs_81 : decode cX6_plugs 81 = .ok (.aload_n 0, 1) := by decide +kernel
theorem dX6_plugs_82 : decode cX6_plugs 82 = .ok (.getfield 7, 3) := by decide +kernel
theorem dX6_plugs_85 : decode cX6_plugs 85 = .ok (.iload_n 1, 1) := by decide +kernel
theorem dX6_plugs_86 : decode cX6_plugs 86 = .ok (.iconst 3, 1) := by decide +kernel
theorem dX6_plugs_87 : decode cX6_plugs 87 = .ok (.invokestatic 58, 3) := by decide +kernel
theorem dX6_plugs_90 : decode cX6_plugs 90 = .ok (.iaload, 1) := by decide +kernel
theorem dX6_plugs_91 : decode cX6_plugs 91 = .ok (.bipush 24, 2) := by decide +kernel
theorem dX6_plugs_93 : decode cX6_plugs 93 = .ok (.if_icmp .ne 6, 3) := by decide +kernel
theorem dX6_plugs_96 : decode cX6_plugs 96 = .ok (.bipush (-5), 2) := by decide +kernel
theorem dX6_plugs_98 : decode cX6_plugs 98 = .ok (.ireturn, 1) := by decide +kernel
theorem dX6_plugs_99 : decode cX6_plugs 99 = .ok (.aload_n 0, 1) := by decide +kernel
theorem dX6_plugs_100 : decode cX6_plugs 100 = .ok (.getfield 7, 3) := by decide +kernel
theorem dX6_plugs_103 : decode cX6_plugs 103 = .ok (.iload_n 1, 1) := by decide +kernel
theorem dX6_plugs_104 : decode cX6_plugs 104 = .ok (.iconst 2, 1) := by decide +kernel
theorem dX6_plugs_105 : decode cX6_plugs 105 = .ok (.invokestatic 58, 3) := by decide +kernel
theorem dX6_plugs_108 : decode cX6_plugs 108 = .ok (.iload_n 2, 1) := by decide +kernel
theorem dX6_plugs_109 : decode cX6_plugs 109 = .ok (.iastore, 1) := by decide +kernel
theorem dX6_plugs_110 : decode cX6_plugs 110 = .ok (.aload_n 0, 1) := by decide +kernel
theorem dX6_plugs_111 : decode cX6_plugs 111 = .ok (.getfield 7, 3) := by decide +kernel
theorem dX6_plugs_114 : decode cX6_plugs 114 = .ok (.iload_n 1, 1) := by decide +kernel
theorem dX6_plugs_115 : decode cX6_plugs 115 = .ok (.iconst 4, 1) := by decide +kernel
theorem dX6_plugs_116 : decode cX6_plugs 116 = .ok (.invokestatic 58, 3) := by decide +kernel
theorem dX6_plugs_119 : decode cX6_plugs 119 = .ok (.iload_n 3, 1) := by decide +kernel
theorem dX6_plugs_120 : decode cX6_plugs 120 = .ok (.iastore, 1) := by decide +kernel
theorem dX6_plugs_121 : decode cX6_plugs 121 = .ok (.aload_n 0, 1) := by decide +kernel
theorem dX6_plugs_122 : decode cX6_plugs 122 = .ok (.getfield 7, 3) := by decide +kernel
theorem dX6_plugs_125 : decode cX6_plugs 125 = .ok (.iload_n 1, 1) := by decide +kernel
theorem dX6_plugs_126 : decode cX6_plugs 126 = .ok (.bipush 7, 2) := by decide +kernel
theorem dX6_plugs_128 : decode cX6_plugs 128 = .ok (.invokestatic 58, 3) := by decide +kernel
theorem dX6_plugs_131 : decode cX6_plugs 131 = .ok (.iconst 0, 1) := by decide +kernel
theorem dX6_plugs_132 : decode cX6_plugs 132 = .ok (.iastore, 1) := by decide +kernel
theorem dX6_plugs_133 : decode cX6_plugs 133 = .ok (.aload_n 0, 1) := by decide +kernel
theorem dX6_plugs_134 : decode cX6_plugs 134 = .ok (.getfield 7, 3) := by decide +kernel
theorem dX6_plugs_137 : decode cX6_plugs 137 = .ok (.iload_n 1, 1) := by decide +kernel
theorem dX6_plugs_138 : decode cX6_plugs 138 = .ok (.iconst 3, 1) := by decide +kernel
theorem dX6_plugs_139 : decode cX6_plugs 139 = .ok (.invokestatic 58, 3) := by decide +kernel
theorem dX6_plugs_142 : decode cX6_plugs 142 = .ok (.iaload, 1) := by decide +kernel
theorem dX6_plugs_143 : decode cX6_plugs 143 = .ok (.ireturn, 1) := by decide +kernel
theorem dX6_plug_0 : decode cX6_plug 0 = .ok (.aload_n 0, 1) := by decide +kernel
theorem dX6_plug_1 : decode cX6_plug 1 = .ok (.invokevirtual 102, 3) := by decide +kernel
theorem dX6_plug_4 : decode cX6_plug 4 = .ok (.aload_n 0, 1) := by decide +kernel
theorem dX6_plug_5 : decode cX6_plug 5 = .ok (.aload_n 0, 1) := by decide +kernel
theorem dX6_plug_6 : decode cX6_plug 6 = .ok (.iload_n 1, 1) := by decide +kernel
theorem dX6_plug_7 : decode cX6_plug 7 = .ok (.iload_n 2, 1) := by decide +kernel
theorem dX6_plug_8 : decode cX6_plug 8 = .ok (.iload_n 3, 1) := by decide +kernel
theorem dX6_plug_9 : decode cX6_plug 9 = .ok (.invokevirtual 123, 3) := by decide +kernel
theorem dX6_plug_12 : decode cX6_plug 12 = .ok (.invokevirtual 111, 3) := by decide +kernel
theorem dX6_plug_15 : decode cX6_plug 15 = .ok (.ireturn, 1) := by decide +kernel
theorem dX6_pulls_0 : decode cX6_pulls 0 = .ok (.aload_n 0, 1) := by decide +kernel
theorem dX6_pulls_1 : decode cX6_pulls 1 = .ok (.iload_n 1, 1) := by decide +kernel
theorem dX6_pulls_2 : decode cX6_pulls 2 = .ok (.invokevirtual 117, 3) := by decide +kernel
theorem dX6_pulls_5 : decode cX6_pulls 5 = .ok (.ifCond .ne 5, 3) := by decide +kernel
theorem dX6_pulls_8 : decode cX6_pulls 8 = .ok (.iconst (-1), 1) := by decide +kernel
theorem dX6_pulls_9 : decode cX6_pulls 9 = .ok (.ireturn, 1) := by decide +kernel
theorem dX6_pulls_10 : decode cX6_pulls 10 = .ok (.iload_n 2, 1) := by decide +kernel
theorem dX6_pulls_11 : decode cX6_pulls 11 = .ok (.iconst 1, 1) := by decide +kernel
theorem dX6_pulls_12 : decode cX6_pulls 12 = .ok (.bipush 24, 2) := by decide +kernel
theorem dX6_pulls_14 : decode cX6_pulls 14 = .ok (.invokestatic 25, 3) := by decide +kernel
theorem dX6_pulls_17 : decode cX6_pulls 17 = .ok (.ifCond .ne 6, 3) := by decide +kernel
theorem dX6_pulls_20 : decode cX6_pulls 20 = .ok (.bipush (-2), 2) := by decide +kernel
theorem dX6_pulls_22 : decode cX6_pulls 22 = .ok (.ireturn, 1) := by decide +kernel
theorem dX6_pulls_23 : decode cX6_pulls 23 = .ok (.aload_n 0, 1) := by decide +kernel
theorem dX6_pulls_24 : decode cX6_pulls 24 = .ok (.getfield 7, 3) := by decide +kernel
theorem dX6_pulls_27 : decode cX6_pulls 27 = .ok (.iload_n 1, 1) := by decide +kernel
theorem dX6_pulls_28 : decode cX6_pulls 28 = .ok (.iconst 2, 1) := by decide +kernel
theorem dX6_pulls_29 : decode cX6_pulls 29 = .ok (.invokestatic 58, 3) := by decide +kernel
theorem dX6_pulls_32 : decode cX6_pulls 32 = .ok (.iaload, 1) := by decide +kernel
theorem dX6_pulls_33 : decode cX6_pulls 33 = .ok (.bipush (-6), 2) := by decide +kernel
theorem dX6_pulls_35 : decode cX6_pulls 35 = .ok (.if_icmp .ne 6, 3) := by decide +kernel
theorem dX6_pulls_38 : decode cX6_pulls 38 = .ok (.bipush (-5), 2) := by decide +kernel
theorem dX6_pulls_40 : decode cX6_pulls 40 = .ok (.ireturn, 1) := by decide +kernel
theorem dX6_pulls_41 : decode cX6_pulls 41 = .ok (.aload_n 0, 1) := by decide +kernel
theorem dX6_pulls_42 : decode cX6_pulls 42 = .ok (.getfield 7, 3) := by decide +kernel
theorem dX6_pulls_45 : decode cX6_pulls 45 = .ok (.iload_n 1, 1) := by decide +kernel
theorem dX6_pulls_46 : decode cX6_pulls 46 = .ok (.iconst 4, 1) := by decide +kernel
theorem dX6_pulls_47 : decode cX6_pulls 47 = .ok (.invokestatic 58, 3) := by decide +kernel
theorem dX6_pulls_50 : decode cX6_pulls 50 = .ok (.iload_n 2, 1) := by decide +kernel
theorem dX6_pulls_51 : decode cX6_pulls 51 = .ok (.ineg, 1) := by decide +kernel
theorem dX6_pulls_52 : decode cX6_pulls 52 = .ok (.iastore, 1) := by decide +kernel
theorem dX6_pulls_53 : decode cX6_pulls 53 = .ok (.aload_n 0, 1) := by decide +kernel
theorem dX6_pulls_54 : decode cX6_pulls 54 = .ok (.getfield 7, 3) := by decide +kernel
theorem dX6_pulls_57 : decode cX6_pulls 57 = .ok (.iload_n 1, 1) := by decide +kernel
theorem dX6_pulls_58 : decode cX6_pulls 58 = .ok (.iconst 3, 1) := by decide +kernel
theorem dX6_pulls_59 : decode cX6_pulls 59 = .ok (.invokestatic 58, 3) := by decide +kernel
theorem dX6_pulls_62 : decode cX6_pulls 62 = .ok (.iaload, 1) := by decide +kernel
theorem dX6_pulls_63 : decode cX6_pulls 63 = .ok (.ireturn, 1) := by decide +kernel
theorem dX6_pull_0 : decode cX6_pull 0 = .ok (.aload_n 0, 1) := by decide +kernel
theorem dX6_pull_1 : decode cX6_pull 1 = .ok (.invokevirtual 102, 3) := by decide +kernel
theorem dX6_pull_4 : decode cX6_pull 4 = .ok (.aload_n 0, 1) := by decide +kernel
theorem dX6_pull_5 : decode cX6_pull 5 = .ok (.aload_n 0, 1) := by decide +kernel
theorem dX6_pull_6 : decode cX6_pull 6 = .ok (.iload_n 1, 1) := by decide +kernel
theorem dX6_pull_7 : decode cX6_pull 7 = .ok (.iload_n 2, 1) := by decide +kernel
theorem dX6_pull_8 : decode cX6_pull 8 = .ok (.invokevirtual 127, 3) := by decide +kernel
theorem dX6_pull_11 : decode cX6_pull 11 = .ok (.invokevirtual 111, 3) := by decide +kernel
theorem dX6_pull_14 : decode cX6_pull 14 = .ok (.ireturn, 1) := by decide +kernel
theorem dX6_asks_0 : decode cX6_asks 0 = .ok (.aload_n 0, 1) := by decide +kernel
theorem dX6_asks_1 : decode cX6_asks 1 = .ok (.iload_n 1, 1) := by decide +kernel
theorem dX6_asks_2 : decode cX6_asks 2 = .ok (.invokevirtual 117, 3) := by decide +kernel
theorem dX6_asks_5 : decode cX6_asks 5 = .ok (.ifCond .ne 5, 3) := by decide +kernel
theorem dX6_asks_8 : decode cX6_asks 8 = .ok (.iconst (-1), 1) := by decide +kernel
theorem dX6_asks_9 : decode cX6_asks 9 = .ok (.ireturn, 1) := by decide +kernel
theorem dX6_asks_10 : decode cX6_asks 10 = .ok (.aload_n 0, 1) := by decide +kernel
theorem dX6_asks_11 : decode cX6_asks 11 = .ok (.getfield 7, 3) := by decide +kernel
theorem dX6_asks_14 : decode cX6_asks 14 = .ok (.iload_n 1, 1) := by decide +kernel
theorem dX6_asks_15 : decode cX6_asks 15 = .ok (.bipush 6, 2) := by decide +kernel
theorem dX6_asks_17 : decode cX6_asks 17 = .ok (.invokestatic 58, 3) := by decide +kernel
theorem dX6_asks_20 : decode cX6_asks 20 = .ok (.iaload, 1) := by decide +kernel
theorem dX6_asks_21 : decode cX6_asks 21 = .ok (.ifCond .eq 18, 3) := by decide +kernel
theorem dX6_asks_24 : decode cX6_asks 24 = .ok (.aload_n 0, 1) := by decide +kernel
theorem dX6_asks_25 : decode cX6_asks 25 = .ok (.getfield 7, 3) := by decide +kernel
theorem dX6_asks_28 : decode cX6_asks 28 = .ok (.iload_n 1, 1) := by decide +kernel
theorem dX6_asks_29 : decode cX6_asks 29 = .ok (.bipush 7, 2) := by decide +kernel
theorem dX6_asks_31 : decode cX6_asks 31 = .ok (.invokestatic 58, 3) := by decide +kernel
theorem dX6_asks_34 : decode cX6_asks 34 = .ok (.iaload, 1) := by decide +kernel
theorem dX6_asks_35 : decode cX6_asks 35 = .ok (.iconst 1, 1) := by decide +kernel
theorem dX6_asks_36 : decode cX6_asks 36 = .ok (.if_icmp .ne 6, 3) := by decide +kernel
theorem dX6_asks_39 : decode cX6_asks 39 = .ok (.bipush (-5), 2) := by decide +kernel
theorem dX6_asks_41 : decode cX6_asks 41 = .ok (.ireturn, 1) := by decide +kernel
theorem dX6_asks_42 : decode cX6_asks 42 = .ok (.aload_n 0, 1) := by decide +kernel
theorem dX6_asks_43 : decode cX6_asks 43 = .ok (.getfield 7, 3) := by decide +kernel
theorem dX6_asks_46 : decode cX6_asks 46 = .ok (.iload_n 1, 1) := by decide +kernel
theorem dX6_asks_47 : decode cX6_asks 47 = .ok (.bipush 7, 2) := by decide +kernel
theorem dX6_asks_49 : decode cX6_asks 49 = .ok (.invokestatic 58, 3) := by decide +kernel
theorem dX6_asks_52 : decode cX6_asks 52 = .ok (.iconst 1, 1) := by decide +kernel
theorem dX6_asks_53 : decode cX6_asks 53 = .ok (.iastore, 1) := by decide +kernel
theorem dX6_asks_54 : decode cX6_asks 54 = .ok (.aload_n 0, 1) := by decide +kernel
theorem dX6_asks_55 : decode cX6_asks 55 = .ok (.iload_n 1, 1) := by decide +kernel
theorem dX6_asks_56 : decode cX6_asks 56 = .ok (.invokevirtual 130, 3) := by decide +kernel
theorem dX6_asks_59 : decode cX6_asks 59 = .ok (.ireturn, 1) := by decide +kernel
theorem dX6_ask_0 : decode cX6_ask 0 = .ok (.aload_n 0, 1) := by decide +kernel
theorem dX6_ask_1 : decode cX6_ask 1 = .ok (.invokevirtual 102, 3) := by decide +kernel
theorem dX6_ask_4 : decode cX6_ask 4 = .ok (.aload_n 0, 1) := by decide +kernel
theorem dX6_ask_5 : decode cX6_ask 5 = .ok (.aload_n 0, 1) := by decide +kernel
theorem dX6_ask_6 : decode cX6_ask 6 = .ok (.iload_n 1, 1) := by decide +kernel
theorem dX6_ask_7 : decode cX6_ask 7 = .ok (.invokevirtual 133, 3) := by decide +kernel
theorem dX6_ask_10 : decode cX6_ask 10 = .ok (.invokevirtual 111, 3) := by decide +kernel
theorem dX6_ask_13 : decode cX6_ask 13 = .ok (.ireturn, 1) := by decide +kernel
theorem dX6_hindrance_0 : decode cX6_hindrance 0 = .ok (.aload_n 0, 1) := by decide +kernel
theorem dX6_hindrance_1 : decode cX6_hindrance 1 = .ok (.getfield 7, 3) := by decide +kernel
theorem dX6_hindrance_4 : decode cX6_hindrance 4 = .ok (.iload_n 1, 1) := by decide +kernel
theorem dX6_hindrance_5 : decode cX6_hindrance 5 = .ok (.bipush 6, 2) := by decide +kernel
theorem dX6_hindrance_7 : decode cX6_hindrance 7 = .ok (.invokestatic 58, 3) := by decide +kernel
theorem dX6_hindrance_10 : decode cX6_hindrance 10 = .ok (.iaload, 1) := by decide +kernel
theorem dX6_hindrance_11 : decode cX6_hindrance 11 = .ok (.ifCond .eq 17, 3) := by decide +kernel
theorem dX6_hindrance_14 : decode cX6_hindrance 14 = .ok (.aload_n 0, 1) := by decide +kernel
theorem dX6_hindrance_15 : decode cX6_hindrance 15 = .ok (.getfield 7, 3) := by decide +kernel
theorem dX6_hindrance_18 : decode cX6_hindrance 18 = .ok (.iload_n 2, 1) := by decide +kernel
theorem dX6_hindrance_19 : decode cX6_hindrance 19 = .ok (.bipush 6, 2) := by decide +kernel
theorem dX6_hindrance_21 : decode cX6_hindrance 21 = .ok (.invokestatic 58, 3) := by decide +kernel
theorem dX6_hindrance_24 : decode cX6_hindrance 24 = .ok (.iaload, 1) := by decide +kernel
theorem dX6_hindrance_25 : decode cX6_hindrance 25 = .ok (.ifCond .ne 23, 3) := by decide +kernel
theorem dX6_hindrance_28 : decode cX6_hindrance 28 = .ok (.aload_n 0, 1) := by decide +kernel
theorem dX6_hindrance_29 : decode cX6_hindrance 29 = .ok (.getfield 7, 3) := by decide +kernel
theorem dX6_hindrance_32 : decode cX6_hindrance 32 = .ok (.iload_n 1, 1) := by decide +kernel
theorem dX6_hindrance_33 : decode cX6_hindrance 33 = .ok (.bipush 6, 2) := by decide +kernel
theorem dX6_hindrance_35 : decode cX6_hindrance 35 = .ok (.invokestatic 58, 3) := by decide +kernel
theorem dX6_hindrance_38 : decode cX6_hindrance 38 = .ok (.iaload, 1) := by decide +kernel
theorem dX6_hindrance_39 : decode cX6_hindrance 39 = .ok (.ifCond .ne 7, 3) := by decide +kernel
theorem dX6_hindrance_42 : decode cX6_hindrance 42 = .ok (.iconst 1, 1) := by decide +kernel
theorem dX6_hindrance_43 : decode cX6_hindrance 43 = .ok (.goto 4, 3) := by decide +kernel
theorem dX6_hindrance_46 : decode cX6_hindrance 46 = .ok (.iconst 2, 1) := by decide +kernel
theorem dX6_hindrance_47 : decode cX6_hindrance 47 = .ok (.ireturn, 1) := by decide +kernel
theorem dX6_hindrance_48 : decode cX6_hindrance 48 = .ok (.aload_n 0, 1) := by decide +kernel
theorem dX6_hindrance_49 : decode cX6_hindrance 49 = .ok (.getfield 7, 3) := by decide +kernel
theorem dX6_hindrance_52 : decode cX6_hindrance 52 = .ok (.iload_n 1, 1) := by decide +kernel
theorem dX6_hindrance_53 : decode cX6_hindrance 53 = .ok (.bipush 7, 2) := by decide +kernel
theorem dX6_hindrance_55 : decode cX6_hindrance 55 = .ok (.invokestatic 58, 3) := by decide +kernel
theorem dX6_hindrance_58 : decode cX6_hindrance 58 = .ok (.iaload, 1) := by decide +kernel
theorem dX6_hindrance_59 : decode cX6_hindrance 59 = .ok (.iconst 1, 1) := by decide +kernel
theorem dX6_hindrance_60 : decode cX6_hindrance 60 = .ok (.if_icmp .eq 18, 3) := by decide +kernel
theorem dX6_hindrance_63 : decode cX6_hindrance 63 = .ok (.aload_n 0, 1) := by decide +kernel
theorem dX6_hindrance_64 : decode cX6_hindrance 64 = .ok (.getfield 7, 3) := by decide +kernel
theorem dX6_hindrance_67 : decode cX6_hindrance 67 = .ok (.iload_n 2, 1) := by decide +kernel
theorem dX6_hindrance_68 : decode cX6_hindrance 68 = .ok (.bipush 7, 2) := by decide +kernel
theorem dX6_hindrance_70 : decode cX6_hindrance 70 = .ok (.invokestatic 58, 3) := by decide +kernel
theorem dX6_hindrance_73 : decode cX6_hindrance 73 = .ok (.iaload, 1) := by decide +kernel
theorem dX6_hindrance_74 : decode cX6_hindrance 74 = .ok (.iconst 1, 1) := by decide +kernel
theorem dX6_hindrance_75 : decode cX6_hindrance 75 = .ok (.if_icmp .ne 7, 3) := by decide +kernel
theorem dX6_hindrance_78 : decode cX6_hindrance 78 = .ok (.iconst 3, 1) := by decide +kernel
theorem dX6_hindrance_79 : decode cX6_hindrance 79 = .ok (.goto 4, 3) := by decide +kernel
theorem dX6_hindrance_82 : decode cX6_hindrance 82 = .ok (.iconst 0, 1) := by decide +kernel
theorem dX6_hindrance_83 : decode cX6_hindrance 83 = .ok (.ireturn, 1) := by decide +kernel
theorem dX6_sends_0 : decode cX6_sends 0 = .ok (.aload_n 0, 1) := by decide +kernel
theorem dX6_sends_1 : decode cX6_sends 1 = .ok (.iload_n 1, 1) := by decide +kernel
theorem dX6_sends_2 : decode cX6_sends 2 = .ok (.invokevirtual 117, 3) := by decide +kernel
theorem dX6_sends_5 : decode cX6_sends 5 = .ok (.ifCond .eq 11, 3) := by decide +kernel
theorem dX6_sends_8 : decode cX6_sends 8 = .ok (.aload_n 0, 1) := by decide +kernel
theorem dX6_sends_9 : decode cX6_sends 9 = .ok (.iload_n 2, 1) := by decide +kernel
theorem dX6_sends_10 : decode cX6_sends 10 = .ok (.invokevirtual 117, 3) := by decide +kernel
theorem dX6_sends_13 : decode cX6_sends 13 = .ok (.ifCond .ne 5, 3) := by decide +kernel
theorem dX6_sends_16 : decode cX6_sends 16 = .ok (.iconst (-1), 1) := by decide +kernel
theorem dX6_sends_17 : decode cX6_sends 17 = .ok (.ireturn, 1) := by decide +kernel
theorem dX6_sends_18 : decode cX6_sends 18 = .ok (.iload_n 1, 1) := by decide +kernel
theorem dX6_sends_19 : decode cX6_sends 19 = .ok (.iload_n 2, 1) := by decide +kernel
theorem dX6_sends_20 : decode cX6_sends 20 = .ok (.if_icmp .ne 6, 3) := by decide +kernel
theorem dX6_sends_23 : decode cX6_sends 23 = .ok (.bipush (-2), 2) := by decide +kernel
theorem dX6_sends_25 : decode cX6_sends 25 = .ok (.ireturn, 1) := by decide +kernel
theorem dX6_sends_26 : decode cX6_sends 26 = .ok (.aload_n 0, 1) := by decide +kernel
theorem dX6_sends_27 : decode cX6_sends 27 = .ok (.iload_n 1, 1) := by decide +kernel
theorem dX6_sends_28 : decode cX6_sends 28 = .ok (.iload_n 2, 1) := by decide +kernel
theorem dX6_sends_29 : decode cX6_sends 29 = .ok (.invokevirtual 136, 3) := by decide +kernel
theorem dX6_sends_32 : decode cX6_sends 32 = .ok (.ifCond .eq 6, 3) := by decide +kernel
theorem dX6_sends_35 : decode cX6_sends 35 = .ok (.bipush (-5), 2) := by decide +kernel
theorem dX6_sends_37 : decode cX6_sends 37 = .ok (.ireturn, 1) := by decide +kernel
theorem dX6_sends_38 : decode cX6_sends 38 = .ok (.aload_n 0, 1) := by decide +kernel
theorem dX6_sends_39 : decode cX6_sends 39 = .ok (.bipush (-6), 2) := by decide +kernel
theorem dX6_sends_41 : decode cX6_sends 41 = .ok (.invokevirtual 130, 3) := by decide +kernel
theorem dX6_sends_44 : decode cX6_sends 44 = .ok (.bipush 10, 2) := by decide +kernel
theorem dX6_sends_46 : decode cX6_sends 46 = .ok (.if_icmp .eq 16, 3) := by decide +kernel
theorem dX6_sends_49 : decode cX6_sends 49 = .ok (.aload_n 0, 1) := by decide +kernel
theorem dX6_sends_50 : decode cX6_sends 50 = .ok (.getfield 7, 3) := by decide +kernel
theorem dX6_sends_53 : decode cX6_sends 53 = .ok (.bipush 94, 2) := by decide +kernel
theorem dX6_sends_55 : decode cX6_sends 55 = .ok (.iaload, 1) := by decide +kernel
theorem dX6_sends_56 : decode cX6_sends 56 = .ok (.sipush 200, 3) := by decide +kernel
theorem dX6_sends_59 : decode cX6_sends 59 = .ok (.if_icmp .ne 6, 3) := by decide +kernel
theorem dX6_sends_62 : decode cX6_sends 62 = .ok (.bipush (-4), 2) := by decide +kernel
theorem dX6_sends_64 : decode cX6_sends 64 = .ok (.ireturn, 1) := by decide +kernel
theorem dX6_sends_65 : decode cX6_sends 65 = .ok (.aload_n 0, 1) := by decide +kernel
theorem dX6_sends_66 : decode cX6_sends 66 = .ok (.getfield 7, 3) := by decide +kernel
theorem dX6_sends_69 : decode cX6_sends 69 = .ok (.bipush 94, 2) := by decide +kernel
theorem dX6_sends_71 : decode cX6_sends 71 = .ok (.iaload, 1) := by decide +kernel
theorem dX6_sends_72 : decode cX6_sends 72 = .ok (.istore_n 3, 1) := by decide +kernel
theorem dX6_sends_73 : decode cX6_sends 73 = .ok (.aload_n 0, 1) := by decide +kernel
theorem dX6_sends_74 : decode cX6_sends 74 = .ok (.getfield 7, 3) := by decide +kernel
theorem dX6_sends_77 : decode cX6_sends 77 = .ok (.bipush 94, 2) := by decide +kernel
theorem dX6_sends_79 : decode cX6_sends 79 = .ok (.dup2, 1) := by decide +kernel
theorem dX6_sends_80 : decode cX6_sends 80 = .ok (.iaload, 1) := by decide +kernel
theorem dX6_sends_81 : decode cX6_sends 81 = .ok (.iconst 1, 1) := by decide +kernel
theorem dX6_sends_82 : decode cX6_sends 82 = .ok (.iadd, 1) := by decide +kernel
theorem dX6_sends_83 : decode cX6_sends 83 = .ok (.iastore, 1) := by decide +kernel
theorem dX6_sends_84 : decode cX6_sends 84 = .ok (.aload_n 0, 1) := by decide +kernel
theorem dX6_sends_85 : decode cX6_sends 85 = .ok (.getfield 7, 3) := by decide +kernel
theorem dX6_sends_88 : decode cX6_sends 88 = .ok (.bipush 95, 2) := by decide +kernel
theorem dX6_sends_90 : decode cX6_sends 90 = .ok (.iload_n 3, 1) := by decide +kernel
theorem dX6_sends_91 : decode cX6_sends 91 = .ok (.iadd, 1) := by decide +kernel
theorem dX6_sends_92 : decode cX6_sends 92 = .ok (.iload_n 1, 1) := by decide +kernel
theorem dX6_sends_93 : decode cX6_sends 93 = .ok (.bipush 8, 2) := by decide +kernel
theorem dX6_sends_95 : decode cX6_sends 95 = .ok (.iload_n 2, 1) := by decide +kernel
theorem dX6_sends_96 : decode cX6_sends 96 = .ok (.imul, 1) := by decide +kernel
theorem dX6_sends_97 : decode cX6_sends 97 = .ok (.iadd, 1) := by decide +kernel
theorem dX6_sends_98 : decode cX6_sends 98 = .ok (.iastore, 1) := by decide +kernel
theorem dX6_sends_99 : decode cX6_sends 99 = .ok (.iload_n 3, 1) := by decide +kernel
theorem dX6_sends_100 : decode cX6_sends 100 = .ok (.ireturn, 1) := by decide +kernel
theorem dX6_send_0 : decode cX6_send 0 = .ok (.aload_n 0, 1) := by decide +kernel
theorem dX6_send_1 : decode cX6_send 1 = .ok (.invokevirtual 102, 3) := by decide +kernel
theorem dX6_send_4 : decode cX6_send 4 = .ok (.aload_n 0, 1) := by decide +kernel
theorem dX6_send_5 : decode cX6_send 5 = .ok (.aload_n 0, 1) := by decide +kernel
theorem dX6_send_6 : decode cX6_send 6 = .ok (.iload_n 1, 1) := by decide +kernel
theorem dX6_send_7 : decode cX6_send 7 = .ok (.iload_n 2, 1) := by decide +kernel
theorem dX6_send_8 : decode cX6_send 8 = .ok (.invokevirtual 139, 3) := by decide +kernel
theorem dX6_send_11 : decode cX6_send 11 = .ok (.invokevirtual 111, 3) := by decide +kernel
theorem dX6_send_14 : decode cX6_send 14 = .ok (.ireturn, 1) := by decide +kernel
theorem dX6_pass_0 : decode cX6_pass 0 = .ok (.aload_n 0, 1) := by decide +kernel
theorem dX6_pass_1 : decode cX6_pass 1 = .ok (.invokevirtual 102, 3) := by decide +kernel
theorem dX6_pass_4 : decode cX6_pass 4 = .ok (.aload_n 0, 1) := by decide +kernel
theorem dX6_pass_5 : decode cX6_pass 5 = .ok (.aload_n 0, 1) := by decide +kernel
theorem dX6_pass_6 : decode cX6_pass 6 = .ok (.iload_n 1, 1) := by decide +kernel
theorem dX6_pass_7 : decode cX6_pass 7 = .ok (.invokevirtual 142, 3) := by decide +kernel
theorem dX6_pass_10 : decode cX6_pass 10 = .ok (.invokevirtual 111, 3) := by decide +kernel
theorem dX6_pass_13 : decode cX6_pass 13 = .ok (.ireturn, 1) := by decide +kernel
theorem dX6_of_0 : decode cX6_of 0 = .ok (.aload_n 0, 1) := by decide +kernel
theorem dX6_of_1 : decode cX6_of 1 = .ok (.iload_n 1, 1) := by decide +kernel
theorem dX6_of_2 : decode cX6_of 2 = .ok (.invokevirtual 117, 3) := by decide +kernel
theorem dX6_of_5 : decode cX6_of 5 = .ok (.ifCond .ne 5, 3) := by decide +kernel
theorem dX6_of_8 : decode cX6_of 8 = .ok (.iconst (-1), 1) := by decide +kernel
theorem dX6_of_9 : decode cX6_of 9 = .ok (.ireturn, 1) := by decide +kernel
theorem dX6_of_10 : decode cX6_of 10 = .ok (.iload_n 2, 1) := by decide +kernel
theorem dX6_of_11 : decode cX6_of 11 = .ok (.iconst 0, 1) := by decide +kernel
theorem dX6_of_12 : decode cX6_of 12 = .ok (.bipush 10, 2) := by decide +kernel
theorem dX6_of_14 : decode cX6_of 14 = .ok (.invokestatic 25, 3) := by decide +kernel
theorem dX6_of_17 : decode cX6_of 17 = .ok (.ifCond .ne 6, 3) := by decide +kernel
theorem dX6_of_20 : decode cX6_of 20 = .ok (.bipush (-2), 2) := by decide +kernel
theorem dX6_of_22 : decode cX6_of 22 = .ok (.ireturn, 1) := by decide +kernel
theorem dX6_of_23 : decode cX6_of 23 = .ok (.aload_n 0, 1) := by decide +kernel
theorem dX6_of_24 : decode cX6_of 24 = .ok (.getfield 7, 3) := by decide +kernel
theorem dX6_of_27 : decode cX6_of 27 = .ok (.iload_n 1, 1) := by decide +kernel
theorem dX6_of_28 : decode cX6_of 28 = .ok (.iload_n 2, 1) := by decide +kernel
theorem dX6_of_29 : decode cX6_of 29 = .ok (.invokestatic 58, 3) := by decide +kernel
theorem dX6_of_32 : decode cX6_of 32 = .ok (.iaload, 1) := by decide +kernel
theorem dX6_of_33 : decode cX6_of 33 = .ok (.iload_n 2, 1) := by decide +kernel
theorem dX6_of_34 : decode cX6_of 34 = .ok (.iconst 4, 1) := by decide +kernel
theorem dX6_of_35 : decode cX6_of 35 = .ok (.if_icmp .ne 8, 3) := by decide +kernel
theorem dX6_of_38 : decode cX6_of 38 = .ok (.bipush 100, 2) := by decide +kernel
theorem dX6_of_40 : decode cX6_of 40 = .ok (.goto 4, 3) := by decide +kernel
theorem dX6_of_43 : decode cX6_of 43 = .ok (.iconst 0, 1) := by decide +kernel
theorem dX6_of_44 : decode cX6_of 44 = .ok (.iadd, 1) := by decide +kernel
theorem dX6_of_45 : decode cX6_of 45 = .ok (.ireturn, 1) := by decide +kernel
theorem dX6_slot_0 : decode cX6_slot 0 = .ok (.iload_n 1, 1) := by decide +kernel
theorem dX6_slot_1 : decode cX6_slot 1 = .ok (.invokestatic 120, 3) := by decide +kernel
theorem dX6_slot_4 : decode cX6_slot 4 = .ok (.ifCond .eq 11, 3) := by decide +kernel
theorem dX6_slot_7 : decode cX6_slot 7 = .ok (.aload_n 0, 1) := by decide +kernel
theorem dX6_slot_8 : decode cX6_slot 8 = .ok (.iload_n 1, 1) := by decide +kernel
theorem dX6_slot_9 : decode cX6_slot 9 = .ok (.invokevirtual 76, 3) := by decide +kernel
theorem dX6_slot_12 : decode cX6_slot 12 = .ok (.goto 4, 3) := by decide +kernel
theorem dX6_slot_15 : decode cX6_slot 15 = .ok (.iconst (-1), 1) := by decide +kernel
theorem dX6_slot_16 : decode cX6_slot 16 = .ok (.ireturn, 1) := by decide +kernel
theorem dX6_word_0 : decode cX6_word 0 = .ok (.iload_n 1, 1) := by decide +kernel
theorem dX6_word_1 : decode cX6_word 1 = .ok (.iconst 0, 1) := by decide +kernel
theorem dX6_word_2 : decode cX6_word 2 = .ok (.aload_n 0, 1) := by decide +kernel
theorem dX6_word_3 : decode cX6_word 3 = .ok (.getfield 7, 3) := by decide +kernel
theorem dX6_word_6 : decode cX6_word 6 = .ok (.bipush 94, 2) := by decide +kernel
theorem dX6_word_8 : decode cX6_word 8 = .ok (.iaload, 1) := by decide +kernel
theorem dX6_word_9 : decode cX6_word 9 = .ok (.iconst 1, 1) := by decide +kernel
theorem dX6_word_10 : decode cX6_word 10 = .ok (.isub, 1) := by decide +kernel
theorem dX6_word_11 : decode cX6_word 11 = .ok (.invokestatic 25, 3) := by decide +kernel
theorem dX6_word_14 : decode cX6_word 14 = .ok (.ifCond .ne 5, 3) := by decide +kernel
theorem dX6_word_17 : decode cX6_word 17 = .ok (.iconst (-1), 1) := by decide +kernel
theorem dX6_word_18 : decode cX6_word 18 = .ok (.ireturn, 1) := by decide +kernel
theorem dX6_word_19 : decode cX6_word 19 = .ok (.iload_n 2, 1) := by decide +kernel
theorem dX6_word_20 : decode cX6_word 20 = .ok (.tableswitch 93 0 4 #[36, 42, 48, 54, 68], 36) := by decide +kernel
theorem dX6_word_56 : decode cX6_word 56 = .ok (.aload_n 0, 1) := by decide +kernel
theorem dX6_word_57 : decode cX6_word 57 = .ok (.iload_n 1, 1) := by decide +kernel
theorem dX6_word_58 : decode cX6_word 58 = .ok (.invokevirtual 33, 3) := by decide +kernel
theorem dX6_word_61 : decode cX6_word 61 = .ok (.ireturn, 1) := by decide +kernel
theorem dX6_word_62 : decode cX6_word 62 = .ok (.aload_n 0, 1) := by decide +kernel
theorem dX6_word_63 : decode cX6_word 63 = .ok (.iload_n 1, 1) := by decide +kernel
theorem dX6_word_64 : decode cX6_word 64 = .ok (.invokevirtual 36, 3) := by decide +kernel
theorem dX6_word_67 : decode cX6_word 67 = .ok (.ireturn, 1) := by decide +kernel
theorem dX6_word_68 : decode cX6_word 68 = .ok (.aload_n 0, 1) := by decide +kernel
theorem dX6_word_69 : decode cX6_word 69 = .ok (.iload_n 1, 1) := by decide +kernel
theorem dX6_word_70 : decode cX6_word 70 = .ok (.invokevirtual 29, 3) := by decide +kernel
theorem dX6_word_73 : decode cX6_word 73 = .ok (.ireturn, 1) := by decide +kernel
theorem dX6_word_74 : decode cX6_word 74 = .ok (.aload_n 0, 1) := by decide +kernel
theorem dX6_word_75 : decode cX6_word 75 = .ok (.getfield 7, 3) := by decide +kernel
theorem dX6_word_78 : decode cX6_word 78 = .ok (.bipush 95, 2) := by decide +kernel
theorem dX6_word_80 : decode cX6_word 80 = .ok (.iload_n 1, 1) := by decide +kernel
theorem dX6_word_81 : decode cX6_word 81 = .ok (.iadd, 1) := by decide +kernel
theorem dX6_word_82 : decode cX6_word 82 = .ok (.iaload, 1) := by decide +kernel
theorem dX6_word_83 : decode cX6_word 83 = .ok (.sipush 256, 3) := by decide +kernel
theorem dX6_word_86 : decode cX6_word 86 = .ok (.idiv, 1) := by decide +kernel
theorem dX6_word_87 : decode cX6_word 87 = .ok (.ireturn, 1) := by decide +kernel
theorem dX6_word_88 : decode cX6_word 88 = .ok (.aload_n 0, 1) := by decide +kernel
theorem dX6_word_89 : decode cX6_word 89 = .ok (.getfield 7, 3) := by decide +kernel
theorem dX6_word_92 : decode cX6_word 92 = .ok (.sipush 295, 3) := by decide +kernel
theorem dX6_word_95 : decode cX6_word 95 = .ok (.iaload, 1) := by decide +kernel
theorem dX6_word_96 : decode cX6_word 96 = .ok (.iload_n 1, 1) := by decide +kernel
theorem dX6_word_97 : decode cX6_word 97 = .ok (.if_icmp .ne 14, 3) := by decide +kernel
theorem dX6_word_100 : decode cX6_word 100 = .ok (.aload_n 0, 1) := by decide +kernel
theorem dX6_word_101 : decode cX6_word 101 = .ok (.getfield 7, 3) := by decide +kernel
theorem dX6_word_104 : decode cX6_word 104 = .ok (.sipush 296, 3) := by decide +kernel
theorem dX6_word_107 : decode cX6_word 107 = .ok (.iaload, 1) := by decide +kernel
theorem dX6_word_108 : decode cX6_word 108 = .ok (.goto 4, 3) := by decide +kernel
theorem dX6_word_111 : decode cX6_word 111 = .ok (.iconst 0, 1) := by decide +kernel
theorem dX6_word_112 : decode cX6_word 112 = .ok (.ireturn, 1) := by decide +kernel
theorem dX6_word_113 : decode cX6_word 113 = .ok (.bipush (-2), 2) := by decide +kernel
theorem dX6_word_115 : decode cX6_word 115 = .ok (.ireturn, 1) := by decide +kernel
theorem dX6_waiting_0 : decode cX6_waiting 0 = .ok (.iconst (-1), 1) := by decide +kernel
theorem dX6_waiting_1 : decode cX6_waiting 1 = .ok (.istore_n 2, 1) := by decide +kernel
theorem dX6_waiting_2 : decode cX6_waiting 2 = .ok (.iconst 0, 1) := by decide +kernel
theorem dX6_waiting_3 : decode cX6_waiting 3 = .ok (.istore_n 3, 1) := by decide +kernel
theorem dX6_waiting_4 : decode cX6_waiting 4 = .ok (.iconst 0, 1) := by decide +kernel
theorem dX6_waiting_5 : decode cX6_waiting 5 = .ok (.istore 4, 2) := by decide +kernel
theorem dX6_waiting_7 : decode cX6_waiting 7 = .ok (.iload 4, 2) := by decide +kernel
theorem dX6_waiting_9 : decode cX6_waiting 9 = .ok (.aload_n 0, 1) := by decide +kernel
theorem dX6_waiting_10 : decode cX6_waiting 10 = .ok (.getfield 7, 3) := by decide +kernel
theorem dX6_waiting_13 : decode cX6_waiting 13 = .ok (.bipush 94, 2) := by decide +kernel
theorem dX6_waiting_15 : decode cX6_waiting 15 = .ok (.iaload, 1) := by decide +kernel
theorem dX6_waiting_16 : decode cX6_waiting 16 = .ok (.if_icmp .ge 55, 3) := by decide +kernel
theorem dX6_waiting_19 : decode cX6_waiting 19 = .ok (.aload_n 0, 1) := by decide +kernel
theorem dX6_waiting_20 : decode cX6_waiting 20 = .ok (.iload 4, 2) := by decide +kernel
theorem dX6_waiting_22 : decode cX6_waiting 22 = .ok (.invokevirtual 29, 3) := by decide +kernel
theorem dX6_waiting_25 : decode cX6_waiting 25 = .ok (.ifCond .ne 7, 3) := by decide +kernel
theorem dX6_waiting_28 : decode cX6_waiting 28 = .ok (.iconst 1, 1) := by decide +kernel
theorem dX6_waiting_29 : decode cX6_waiting 29 = .ok (.goto 4, 3) := by decide +kernel
theorem dX6_waiting_32 : decode cX6_waiting 32 = .ok (.iconst 0, 1) := by decide +kernel
theorem dX6_waiting_33 : decode cX6_waiting 33 = .ok (.istore 5, 2) := by decide +kernel
theorem dX6_waiting_35 : decode cX6_waiting 35 = .ok (.iload 5, 2) := by decide +kernel
theorem dX6_waiting_37 : decode cX6_waiting 37 = .ok (.ifCond .eq 13, 3) := by decide +kernel
theorem dX6_waiting_40 : decode cX6_waiting 40 = .ok (.iload_n 3, 1) := by decide +kernel
theorem dX6_waiting_41 : decode cX6_waiting 41 = .ok (.iload_n 1, 1) := by decide +kernel
theorem dX6_waiting_42 : decode cX6_waiting 42 = .ok (.if_icmp .ne 8, 3) := by decide +kernel
theorem dX6_waiting_45 : decode cX6_waiting 45 = .ok (.iload 4, 2) := by decide +kernel
theorem dX6_waiting_47 : decode cX6_waiting 47 = .ok (.goto 4, 3) := by decide +kernel
theorem dX6_waiting_50 : decode cX6_waiting 50 = .ok (.iload_n 2, 1) := by decide +kernel
theorem dX6_waiting_51 : decode cX6_waiting 51 = .ok (.istore_n 2, 1) := by decide +kernel
theorem dX6_waiting_52 : decode cX6_waiting 52 = .ok (.iload_n 3, 1) := by decide +kernel
theorem dX6_waiting_53 : decode cX6_waiting 53 = .ok (.iload 5, 2) := by decide +kernel
theorem dX6_waiting_55 : decode cX6_waiting 55 = .ok (.ifCond .eq 7, 3) := by decide +kernel
theorem dX6_waiting_58 : decode cX6_waiting 58 = .ok (.iconst 1, 1) := by decide +kernel
theorem dX6_waiting_59 : decode cX6_waiting 59 = .ok (.goto 4, 3) := by decide +kernel
theorem dX6_waiting_62 : decode cX6_waiting 62 = .ok (.iconst 0, 1) := by decide +kernel
theorem dX6_waiting_63 : decode cX6_waiting 63 = .ok (.iadd, 1) := by decide +kernel
theorem dX6_waiting_64 : decode cX6_waiting 64 = .ok (.istore_n 3, 1) := by decide +kernel
theorem dX6_waiting_65 : decode cX6_waiting 65 = .ok (.iinc 4 1, 3) := by decide +kernel
theorem dX6_waiting_68 : decode cX6_waiting 68 = .ok (.goto (-61), 3) := by decide +kernel
theorem dX6_waiting_71 : decode cX6_waiting 71 = .ok (.iload_n 2, 1) := by decide +kernel
theorem dX6_waiting_72 : decode cX6_waiting 72 = .ok (.ireturn, 1) := by decide +kernel
theorem dX6_boards_0 : decode cX6_boards 0 = .ok (.iconst 0, 1) := by decide +kernel
theorem dX6_boards_1 : decode cX6_boards 1 = .ok (.istore_n 2, 1) := by decide +kernel
theorem dX6_boards_2 : decode cX6_boards 2 = .ok (.iconst 0, 1) := by decide +kernel
theorem dX6_boards_3 : decode cX6_boards 3 = .ok (.istore_n 3, 1) := by decide +kernel
theorem dX6_boards_4 : decode cX6_boards 4 = .ok (.iload_n 3, 1) := by decide +kernel
theorem dX6_boards_5 : decode cX6_boards 5 = .ok (.aload_n 0, 1) := by decide +kernel
theorem dX6_boards_6 : decode cX6_boards 6 = .ok (.getfield 7, 3) := by decide +kernel
theorem dX6_boards_9 : decode cX6_boards 9 = .ok (.iconst 5, 1) := by decide +kernel
theorem dX6_boards_10 : decode cX6_boards 10 = .ok (.iaload, 1) := by decide +kernel
theorem dX6_boards_11 : decode cX6_boards 11 = .ok (.if_icmp .ge 73, 3) := by decide +kernel
theorem dX6_boards_14 : decode cX6_boards 14 = .ok (.iload_n 1, 1) := by decide +kernel
theorem dX6_boards_15 : decode cX6_boards 15 = .ok (.ifCond .eq 26, 3) := by decide +kernel
theorem dX6_boards_18 : decode cX6_boards 18 = .ok (.aload_n 0, 1) := by decide +kernel
theorem dX6_boards_19 : decode cX6_boards 19 = .ok (.getfield 7, 3) := by decide +kernel
theorem dX6_boards_22 : decode cX6_boards 22 = .ok (.iload_n 3, 1) := by decide +kernel
theorem dX6_boards_23 : decode cX6_boards 23 = .ok (.bipush 6, 2) := by decide +kernel
theorem dX6_boards_25 : decode cX6_boards 25 = .ok (.invokestatic 58, 3) := by decide +kernel
theorem dX6_boards_28 : decode cX6_boards 28 = .ok (.iaload, 1) := by decide +kernel
theorem dX6_boards_29 : decode cX6_boards 29 = .ok (.iconst 1, 1) := by decide +kernel
theorem dX6_boards_30 : decode cX6_boards 30 = .ok (.if_icmp .ne 7, 3) := by decide +kernel
theorem dX6_boards_33 : decode cX6_boards 33 = .ok (.iconst 1, 1) := by decide +kernel
theorem dX6_boards_34 : decode cX6_boards 34 = .ok (.goto 27, 3) := by decide +kernel
theorem dX6_boards_37 : decode cX6_boards 37 = .ok (.iconst 0, 1) := by decide +kernel
theorem dX6_boards_38 : decode cX6_boards 38 = .ok (.goto 23, 3) := by decide +kernel
theorem dX6_boards_41 : decode cX6_boards 41 = .ok (.aload_n 0, 1) := by decide +kernel
theorem dX6_boards_42 : decode cX6_boards 42 = .ok (.getfield 7, 3) := by decide +kernel
theorem dX6_boards_45 : decode cX6_boards 45 = .ok (.iload_n 3, 1) := by decide +kernel
theorem dX6_boards_46 : decode cX6_boards 46 = .ok (.iconst 2, 1) := by decide +kernel
theorem dX6_boards_47 : decode cX6_boards 47 = .ok (.invokestatic 58, 3) := by decide +kernel
theorem dX6_boards_50 : decode cX6_boards 50 = .ok (.iaload, 1) := by decide +kernel
theorem dX6_boards_51 : decode cX6_boards 51 = .ok (.bipush (-6), 2) := by decide +kernel
theorem dX6_boards_53 : decode cX6_boards 53 = .ok (.if_icmp .eq 7, 3) := by decide +kernel
theorem dX6_boards_56 : decode cX6_boards 56 = .ok (.iconst 1, 1) := by decide +kernel
theorem dX6_boards_57 : decode cX6_boards 57 = .ok (.goto 4, 3) := by decide +kernel
theorem dX6_boards_60 : decode cX6_boards 60 = .ok (.iconst 0, 1) := by decide +kernel
theorem dX6_boards_61 : decode cX6_boards 61 = .ok (.istore 4, 2) := by decide +kernel
theorem dX6_boards_63 : decode cX6_boards 63 = .ok (.iload_n 2, 1) := by decide +kernel
theorem dX6_boards_64 : decode cX6_boards 64 = .ok (.iload 4, 2) := by decide +kernel
theorem dX6_boards_66 : decode cX6_boards 66 = .ok (.ifCond .eq 9, 3) := by decide +kernel
theorem dX6_boards_69 : decode cX6_boards 69 = .ok (.iconst 1, 1) := by decide +kernel
theorem dX6_boards_70 : decode cX6_boards 70 = .ok (.iload_n 3, 1) := by decide +kernel
theorem dX6_boards_71 : decode cX6_boards 71 = .ok (.ishl, 1) := by decide +kernel
theorem dX6_boards_72 : decode cX6_boards 72 = .ok (.goto 4, 3) := by decide +kernel
theorem dX6_boards_75 : decode cX6_boards 75 = .ok (.iconst 0, 1) := by decide +kernel
theorem dX6_boards_76 : decode cX6_boards 76 = .ok (.ior, 1) := by decide +kernel
theorem dX6_boards_77 : decode cX6_boards 77 = .ok (.istore_n 2, 1) := by decide +kernel
theorem dX6_boards_78 : decode cX6_boards 78 = .ok (.iinc 3 1, 3) := by decide +kernel
theorem dX6_boards_81 : decode cX6_boards 81 = .ok (.goto (-77), 3) := by decide +kernel
theorem dX6_boards_84 : decode cX6_boards 84 = .ok (.iload_n 2, 1) := by decide +kernel
theorem dX6_boards_85 : decode cX6_boards 85 = .ok (.ireturn, 1) := by decide +kernel
theorem dX6_tooSoon_0 : decode cX6_tooSoon 0 = .ok (.iconst 0, 1) := by decide +kernel
theorem dX6_tooSoon_1 : decode cX6_tooSoon 1 = .ok (.istore_n 1, 1) := by decide +kernel
theorem dX6_tooSoon_2 : decode cX6_tooSoon 2 = .ok (.iconst 0, 1) := by decide +kernel
theorem dX6_tooSoon_3 : decode cX6_tooSoon 3 = .ok (.istore_n 2, 1) := by decide +kernel
theorem dX6_tooSoon_4 : decode cX6_tooSoon 4 = .ok (.iload_n 2, 1) := by decide +kernel
theorem dX6_tooSoon_5 : decode cX6_tooSoon 5 = .ok (.aload_n 0, 1) := by decide +kernel
theorem dX6_tooSoon_6 : decode cX6_tooSoon 6 = .ok (.getfield 7, 3) := by decide +kernel
theorem dX6_tooSoon_9 : decode cX6_tooSoon 9 = .ok (.iconst 5, 1) := by decide +kernel
theorem dX6_tooSoon_10 : decode cX6_tooSoon 10 = .ok (.iaload, 1) := by decide +kernel
theorem dX6_tooSoon_11 : decode cX6_tooSoon 11 = .ok (.if_icmp .ge 23, 3) := by decide +kernel
theorem dX6_tooSoon_14 : decode cX6_tooSoon 14 = .ok (.iload_n 1, 1) := by decide +kernel
theorem dX6_tooSoon_15 : decode cX6_tooSoon 15 = .ok (.aload_n 0, 1) := by decide +kernel
theorem dX6_tooSoon_16 : decode cX6_tooSoon 16 = .ok (.getfield 7, 3) := by decide +kernel
theorem dX6_tooSoon_19 : decode cX6_tooSoon 19 = .ok (.iload_n 2, 1) := by decide +kernel
theorem dX6_tooSoon_20 : decode cX6_tooSoon 20 = .ok (.bipush 10, 2) := by decide +kernel
theorem dX6_tooSoon_22 : decode cX6_tooSoon 22 = .ok (.invokestatic 58, 3) := by decide +kernel
theorem dX6_tooSoon_25 : decode cX6_tooSoon 25 = .ok (.iaload, 1) := by decide +kernel
theorem dX6_tooSoon_26 : decode cX6_tooSoon 26 = .ok (.iadd, 1) := by decide +kernel
theorem dX6_tooSoon_27 : decode cX6_tooSoon 27 = .ok (.istore_n 1, 1) := by decide +kernel
theorem dX6_tooSoon_28 : decode cX6_tooSoon 28 = .ok (.iinc 2 1, 3) := by decide +kernel
theorem dX6_tooSoon_31 : decode cX6_tooSoon 31 = .ok (.goto (-27), 3) := by decide +kernel
theorem dX6_tooSoon_34 : decode cX6_tooSoon 34 = .ok (.iload_n 1, 1) := by decide +kernel
theorem dX6_tooSoon_35 : decode cX6_tooSoon 35 = .ok (.ireturn, 1) := by decide +kernel
theorem dX6_count_0 : decode cX6_count 0 = .ok (.iload_n 1, 1) := by decide +kernel
theorem dX6_count_1 : decode cX6_count 1 = .ok (.bipush 13, 2) := by decide +kernel
theorem dX6_count_3 : decode cX6_count 3 = .ok (.bipush 17, 2) := by decide +kernel
theorem dX6_count_5 : decode cX6_count 5 = .ok (.invokestatic 25, 3) := by decide +kernel
theorem dX6_count_8 : decode cX6_count 8 = .ok (.ifCond .eq 13, 3) := by decide +kernel
theorem dX6_count_11 : decode cX6_count 11 = .ok (.aload_n 0, 1) := by decide +kernel
theorem dX6_count_12 : decode cX6_count 12 = .ok (.getfield 7, 3) := by decide +kernel
theorem dX6_count_15 : decode cX6_count 15 = .ok (.iload_n 1, 1) := by decide +kernel
theorem dX6_count_16 : decode cX6_count 16 = .ok (.bipush 13, 2) := by decide +kernel
theorem dX6_count_18 : decode cX6_count 18 = .ok (.isub, 1) := by decide +kernel
theorem dX6_count_19 : decode cX6_count 19 = .ok (.iaload, 1) := by decide +kernel
theorem dX6_count_20 : decode cX6_count 20 = .ok (.ireturn, 1) := by decide +kernel
theorem dX6_count_21 : decode cX6_count 21 = .ok (.iload_n 1, 1) := by decide +kernel
theorem dX6_count_22 : decode cX6_count 22 = .ok (.tableswitch 211 0 19 #[94, 103, 110, 110, 125, 133, 142, 151, 160, 173, 178, 187, 196, 211, 211, 211, 211, 211, 201, 206], 94) := by decide +kernel
theorem dX6_count_116 : decode cX6_count 116 = .ok (.aload_n 0, 1) := by decide +kernel
theorem dX6_count_117 : decode cX6_count 117 = .ok (.getfield 7, 3) := by decide +kernel
theorem dX6_count_120 : decode cX6_count 120 = .ok (.sipush 297, 3) := by decide +kernel
theorem dX6_count_123 : decode cX6_count 123 = .ok (.iaload, 1) := by decide +kernel
theorem dX6_count_124 : decode cX6_count 124 = .ok (.ireturn, 1) := by decide +kernel
theorem dX6_count_125 : decode cX6_count 125 = .ok (.aload_n 0, 1) := by decide +kernel
theorem dX6_count_126 : decode cX6_count 126 = .ok (.getfield 7, 3) := by decide +kernel
theorem dX6_count_129 : decode cX6_count 129 = .ok (.iconst 5, 1) := by decide +kernel
theorem dX6_count_130 : decode cX6_count 130 = .ok (.iaload, 1) := by decide +kernel
theorem dX6_count_131 : decode cX6_count 131 = .ok (.ireturn, 1) := by decide +kernel
theorem dX6_count_132 : decode cX6_count 132 = .ok (.aload_n 0, 1) := by decide +kernel
theorem dX6_count_133 : decode cX6_count 133 = .ok (.iload_n 1, 1) := by decide +kernel
theorem dX6_count_134 : decode cX6_count 134 = .ok (.iconst 3, 1) := by decide +kernel
theorem dX6_count_135 : decode cX6_count 135 = .ok (.if_icmp .ne 7, 3) := by decide +kernel
theorem dX6_count_138 : decode cX6_count 138 = .ok (.iconst 1, 1) := by decide +kernel
theorem dX6_count_139 : decode cX6_count 139 = .ok (.goto 4, 3) := by decide +kernel
theorem dX6_count_142 : decode cX6_count 142 = .ok (.iconst 0, 1) := by decide +kernel
theorem dX6_count_143 : decode cX6_count 143 = .ok (.invokevirtual 145, 3) := by decide +kernel
theorem dX6_count_146 : decode cX6_count 146 = .ok (.ireturn, 1) := by decide +kernel
theorem dX6_count_147 : decode cX6_count 147 = .ok (.aload_n 0, 1) := by decide +kernel
theorem dX6_count_148 : decode cX6_count 148 = .ok (.getfield 7, 3) := by decide +kernel
theorem dX6_count_151 : decode cX6_count 151 = .ok (.bipush 94, 2) := by decide +kernel
theorem dX6_count_153 : decode cX6_count 153 = .ok (.iaload, 1) := by decide +kernel
theorem dX6_count_154 : decode cX6_count 154 = .ok (.ireturn, 1) := by decide +kernel
theorem dX6_count_155 : decode cX6_count 155 = .ok (.aload_n 0, 1) := by decide +kernel
theorem dX6_count_156 : decode cX6_count 156 = .ok (.getfield 7, 3) := by decide +kernel
theorem dX6_count_159 : decode cX6_count 159 = .ok (.sipush 300, 3) := by decide +kernel
theorem dX6_count_162 : decode cX6_count 162 = .ok (.iaload, 1) := by decide +kernel
theorem dX6_count_163 : decode cX6_count 163 = .ok (.ireturn, 1) := by decide +kernel
theorem dX6_count_164 : decode cX6_count 164 = .ok (.aload_n 0, 1) := by decide +kernel
theorem dX6_count_165 : decode cX6_count 165 = .ok (.getfield 7, 3) := by decide +kernel
theorem dX6_count_168 : decode cX6_count 168 = .ok (.sipush 301, 3) := by decide +kernel
theorem dX6_count_171 : decode cX6_count 171 = .ok (.iaload, 1) := by decide +kernel
theorem dX6_count_172 : decode cX6_count 172 = .ok (.ireturn, 1) := by decide +kernel
theorem dX6_count_173 : decode cX6_count 173 = .ok (.aload_n 0, 1) := by decide +kernel
theorem dX6_count_174 : decode cX6_count 174 = .ok (.getfield 7, 3) := by decide +kernel
theorem dX6_count_177 : decode cX6_count 177 = .ok (.sipush 295, 3) := by decide +kernel
theorem dX6_count_180 : decode cX6_count 180 = .ok (.iaload, 1) := by decide +kernel
theorem dX6_count_181 : decode cX6_count 181 = .ok (.ireturn, 1) := by decide +kernel
theorem dX6_count_182 : decode cX6_count 182 = .ok (.aload_n 0, 1) := by decide +kernel
theorem dX6_count_183 : decode cX6_count 183 = .ok (.invokevirtual 92, 3) := by decide +kernel
theorem dX6_count_186 : decode cX6_count 186 = .ok (.ifCond .eq 7, 3) := by decide +kernel
theorem dX6_count_189 : decode cX6_count 189 = .ok (.iconst 1, 1) := by decide +kernel
theorem dX6_count_190 : decode cX6_count 190 = .ok (.goto 4, 3) := by decide +kernel
theorem dX6_count_193 : decode cX6_count 193 = .ok (.iconst 0, 1) := by decide +kernel
theorem dX6_count_194 : decode cX6_count 194 = .ok (.ireturn, 1) := by decide +kernel
theorem dX6_count_195 : decode cX6_count 195 = .ok (.aload_n 0, 1) := by decide +kernel
theorem dX6_count_196 : decode cX6_count 196 = .ok (.invokevirtual 62, 3) := by decide +kernel
theorem dX6_count_199 : decode cX6_count 199 = .ok (.ireturn, 1) := by decide +kernel
theorem dX6_count_200 : decode cX6_count 200 = .ok (.aload_n 0, 1) := by decide +kernel
theorem dX6_count_201 : decode cX6_count 201 = .ok (.getfield 7, 3) := by decide +kernel
theorem dX6_count_204 : decode cX6_count 204 = .ok (.sipush 298, 3) := by decide +kernel
theorem dX6_count_207 : decode cX6_count 207 = .ok (.iaload, 1) := by decide +kernel
theorem dX6_count_208 : decode cX6_count 208 = .ok (.ireturn, 1) := by decide +kernel
theorem dX6_count_209 : decode cX6_count 209 = .ok (.aload_n 0, 1) := by decide +kernel
theorem dX6_count_210 : decode cX6_count 210 = .ok (.getfield 7, 3) := by decide +kernel
theorem dX6_count_213 : decode cX6_count 213 = .ok (.sipush 299, 3) := by decide +kernel
theorem dX6_count_216 : decode cX6_count 216 = .ok (.iaload, 1) := by decide +kernel
theorem dX6_count_217 : decode cX6_count 217 = .ok (.ireturn, 1) := by decide +kernel
theorem dX6_count_218 : decode cX6_count 218 = .ok (.aload_n 0, 1) := by decide +kernel
theorem dX6_count_219 : decode cX6_count 219 = .ok (.invokevirtual 149, 3) := by decide +kernel
theorem dX6_count_222 : decode cX6_count 222 = .ok (.ireturn, 1) := by decide +kernel
theorem dX6_count_223 : decode cX6_count 223 = .ok (.aload_n 0, 1) := by decide +kernel
theorem dX6_count_224 : decode cX6_count 224 = .ok (.getfield 152, 3) := by decide +kernel
theorem dX6_count_227 : decode cX6_count 227 = .ok (.ireturn, 1) := by decide +kernel
theorem dX6_count_228 : decode cX6_count 228 = .ok (.aload_n 0, 1) := by decide +kernel
theorem dX6_count_229 : decode cX6_count 229 = .ok (.getfield 51, 3) := by decide +kernel
theorem dX6_count_232 : decode cX6_count 232 = .ok (.ireturn, 1) := by decide +kernel
theorem dX6_count_233 : decode cX6_count 233 = .ok (.bipush (-2), 2) := by decide +kernel
theorem dX6_count_235 : decode cX6_count 235 = .ok (.ireturn, 1) := by decide +kernel
theorem dX6_known_0 : decode cX6_known 0 = .ok (.iload_n 1, 1) := by decide +kernel
theorem dX6_known_1 : decode cX6_known 1 = .ok (.iconst 0, 1) := by decide +kernel
theorem dX6_known_2 : decode cX6_known 2 = .ok (.bipush 99, 2) := by decide +kernel
theorem dX6_known_4 : decode cX6_known 4 = .ok (.invokestatic 25, 3) := by decide +kernel
theorem dX6_known_7 : decode cX6_known 7 = .ok (.ifCond .ne 6, 3) := by decide +kernel
theorem dX6_known_10 : decode cX6_known 10 = .ok (.bipush (-2), 2) := by decide +kernel
theorem dX6_known_12 : decode cX6_known 12 = .ok (.ireturn, 1) := by decide +kernel
theorem dX6_known_13 : decode cX6_known 13 = .ok (.bipush (-6), 2) := by decide +kernel
theorem dX6_known_15 : decode cX6_known 15 = .ok (.istore_n 2, 1) := by decide +kernel
theorem dX6_known_16 : decode cX6_known 16 = .ok (.aload_n 0, 1) := by decide +kernel
theorem dX6_known_17 : decode cX6_known 17 = .ok (.getfield 7, 3) := by decide +kernel
theorem dX6_known_20 : decode cX6_known 20 = .ok (.iconst 5, 1) := by decide +kernel
theorem dX6_known_21 : decode cX6_known 21 = .ok (.iaload, 1) := by decide +kernel
theorem dX6_known_22 : decode cX6_known 22 = .ok (.iconst 1, 1) := by decide +kernel
theorem dX6_known_23 : decode cX6_known 23 = .ok (.isub, 1) := by decide +kernel
theorem dX6_known_24 : decode cX6_known 24 = .ok (.istore_n 3, 1) := by decide +kernel
theorem dX6_known_25 : decode cX6_known 25 = .ok (.iload_n 3, 1) := by decide +kernel
theorem dX6_known_26 : decode cX6_known 26 = .ok (.ifCond .lt 44, 3) := by decide +kernel
theorem dX6_known_29 : decode cX6_known 29 = .ok (.aload_n 0, 1) := by decide +kernel
theorem dX6_known_30 : decode cX6_known 30 = .ok (.getfield 7, 3) := by decide +kernel
theorem dX6_known_33 : decode cX6_known 33 = .ok (.iload_n 3, 1) := by decide +kernel
theorem dX6_known_34 : decode cX6_known 34 = .ok (.bipush 6, 2) := by decide +kernel
theorem dX6_known_36 : decode cX6_known 36 = .ok (.invokestatic 58, 3) := by decide +kernel
theorem dX6_known_39 : decode cX6_known 39 = .ok (.iaload, 1) := by decide +kernel
theorem dX6_known_40 : decode cX6_known 40 = .ok (.iconst 1, 1) := by decide +kernel
theorem dX6_known_41 : decode cX6_known 41 = .ok (.if_icmp .ne 21, 3) := by decide +kernel
theorem dX6_known_44 : decode cX6_known 44 = .ok (.aload_n 0, 1) := by decide +kernel
theorem dX6_known_45 : decode cX6_known 45 = .ok (.getfield 7, 3) := by decide +kernel
theorem dX6_known_48 : decode cX6_known 48 = .ok (.iload_n 3, 1) := by decide +kernel
theorem dX6_known_49 : decode cX6_known 49 = .ok (.iconst 0, 1) := by decide +kernel
theorem dX6_known_50 : decode cX6_known 50 = .ok (.invokestatic 58, 3) := by decide +kernel
theorem dX6_known_53 : decode cX6_known 53 = .ok (.iaload, 1) := by decide +kernel
theorem dX6_known_54 : decode cX6_known 54 = .ok (.iload_n 1, 1) := by decide +kernel
theorem dX6_known_55 : decode cX6_known 55 = .ok (.if_icmp .ne 7, 3) := by decide +kernel
theorem dX6_known_58 : decode cX6_known 58 = .ok (.iload_n 3, 1) := by decide +kernel
theorem dX6_known_59 : decode cX6_known 59 = .ok (.goto 4, 3) := by decide +kernel
theorem dX6_known_62 : decode cX6_known 62 = .ok (.iload_n 2, 1) := by decide +kernel
theorem dX6_known_63 : decode cX6_known 63 = .ok (.istore_n 2, 1) := by decide +kernel
theorem dX6_known_64 : decode cX6_known 64 = .ok (.iinc 3 (-1), 3) := by decide +kernel
theorem dX6_known_67 : decode cX6_known 67 = .ok (.goto (-42), 3) := by decide +kernel
theorem dX6_known_70 : decode cX6_known 70 = .ok (.iload_n 2, 1) := by decide +kernel
theorem dX6_known_71 : decode cX6_known 71 = .ok (.ireturn, 1) := by decide +kernel
theorem dX6_why_0 : decode cX6_why 0 = .ok (.aload_n 0, 1) := by decide +kernel
theorem dX6_why_1 : decode cX6_why 1 = .ok (.iload_n 1, 1) := by decide +kernel
theorem dX6_why_2 : decode cX6_why 2 = .ok (.invokevirtual 117, 3) := by decide +kernel
theorem dX6_why_5 : decode cX6_why 5 = .ok (.ifCond .eq 11, 3) := by decide +kernel
theorem dX6_why_8 : decode cX6_why 8 = .ok (.aload_n 0, 1) := by decide +kernel
theorem dX6_why_9 : decode cX6_why 9 = .ok (.iload_n 2, 1) := by decide +kernel
theorem dX6_why_10 : decode cX6_why 10 = .ok (.invokevirtual 117, 3) := by decide +kernel
theorem dX6_why_13 : decode cX6_why 13 = .ok (.ifCond .ne 5, 3) := by decide +kernel
theorem dX6_why_16 : decode cX6_why 16 = .ok (.iconst (-1), 1) := by decide +kernel
theorem dX6_why_17 : decode cX6_why 17 = .ok (.ireturn, 1) := by decide +kernel
theorem dX6_why_18 : decode cX6_why 18 = .ok (.iload_n 1, 1) := by decide +kernel
theorem dX6_why_19 : decode cX6_why 19 = .ok (.iload_n 2, 1) := by decide +kernel
theorem dX6_why_20 : decode cX6_why 20 = .ok (.if_icmp .ne 8, 3) := by decide +kernel
theorem dX6_why_23 : decode cX6_why 23 = .ok (.bipush (-2), 2) := by decide +kernel
theorem dX6_why_25 : decode cX6_why 25 = .ok (.goto 9, 3) := by decide +kernel
theorem dX6_why_28 : decode cX6_why 28 = .ok (.aload_n 0, 1) := by decide +kernel
theorem dX6_why_29 : decode cX6_why 29 = .ok (.iload_n 1, 1) := by decide +kernel
theorem dX6_why_30 : decode cX6_why 30 = .ok (.iload_n 2, 1) := by decide +kernel
theorem dX6_why_31 : decode cX6_why 31 = .ok (.invokevirtual 136, 3) := by decide +kernel
theorem dX6_why_34 : decode cX6_why 34 = .ok (.ireturn, 1) := by decide +kernel
theorem dX6_knownIn_0 : decode cX6_knownIn 0 = .ok (.aload_n 0, 1) := by decide +kernel
theorem dX6_knownIn_1 : decode cX6_knownIn 1 = .ok (.iload_n 1, 1) := by decide +kernel
theorem dX6_knownIn_2 : decode cX6_knownIn 2 = .ok (.invokevirtual 117, 3) := by decide +kernel
theorem dX6_knownIn_5 : decode cX6_knownIn 5 = .ok (.ifCond .ne 5, 3) := by decide +kernel
theorem dX6_knownIn_8 : decode cX6_knownIn 8 = .ok (.iconst (-1), 1) := by decide +kernel
theorem dX6_knownIn_9 : decode cX6_knownIn 9 = .ok (.ireturn, 1) := by decide +kernel
theorem dX6_knownIn_10 : decode cX6_knownIn 10 = .ok (.aload_n 0, 1) := by decide +kernel
theorem dX6_knownIn_11 : decode cX6_knownIn 11 = .ok (.getfield 7, 3) := by decide +kernel
theorem dX6_knownIn_14 : decode cX6_knownIn 14 = .ok (.iload_n 1, 1) := by decide +kernel
theorem dX6_knownIn_15 : decode cX6_knownIn 15 = .ok (.iconst 2, 1) := by decide +kernel
theorem dX6_knownIn_16 : decode cX6_knownIn 16 = .ok (.invokestatic 58, 3) := by decide +kernel
theorem dX6_knownIn_19 : decode cX6_knownIn 19 = .ok (.iaload, 1) := by decide +kernel
theorem dX6_knownIn_20 : decode cX6_knownIn 20 = .ok (.bipush (-6), 2) := by decide +kernel
theorem dX6_knownIn_22 : decode cX6_knownIn 22 = .ok (.if_icmp .ne 6, 3) := by decide +kernel
theorem dX6_knownIn_25 : decode cX6_knownIn 25 = .ok (.bipush (-5), 2) := by decide +kernel
theorem dX6_knownIn_27 : decode cX6_knownIn 27 = .ok (.ireturn, 1) := by decide +kernel
theorem dX6_knownIn_28 : decode cX6_knownIn 28 = .ok (.aload_n 0, 1) := by decide +kernel
theorem dX6_knownIn_29 : decode cX6_knownIn 29 = .ok (.invokevirtual 102, 3) := by decide +kernel
theorem dX6_knownIn_32 : decode cX6_knownIn 32 = .ok (.iconst 0, 1) := by decide +kernel
theorem dX6_knownIn_33 : decode cX6_knownIn 33 = .ok (.istore_n 2, 1) := by decide +kernel
theorem dX6_knownIn_34 : decode cX6_knownIn 34 = .ok (.iload_n 2, 1) := by decide +kernel
theorem dX6_knownIn_35 : decode cX6_knownIn 35 = .ok (.sipush 200, 3) := by decide +kernel
theorem dX6_knownIn_38 : decode cX6_knownIn 38 = .ok (.if_icmp .gt 27, 3) := by decide +kernel
theorem dX6_knownIn_41 : decode cX6_knownIn 41 = .ok (.aload_n 0, 1) := by decide +kernel
theorem dX6_knownIn_42 : decode cX6_knownIn 42 = .ok (.getfield 7, 3) := by decide +kernel
theorem dX6_knownIn_45 : decode cX6_knownIn 45 = .ok (.iload_n 1, 1) := by decide +kernel
theorem dX6_knownIn_46 : decode cX6_knownIn 46 = .ok (.bipush 6, 2) := by decide +kernel
theorem dX6_knownIn_48 : decode cX6_knownIn 48 = .ok (.invokestatic 58, 3) := by decide +kernel
theorem dX6_knownIn_51 : decode cX6_knownIn 51 = .ok (.iaload, 1) := by decide +kernel
theorem dX6_knownIn_52 : decode cX6_knownIn 52 = .ok (.ifCond .ne 13, 3) := by decide +kernel
theorem dX6_knownIn_55 : decode cX6_knownIn 55 = .ok (.aload_n 0, 1) := by decide +kernel
theorem dX6_knownIn_56 : decode cX6_knownIn 56 = .ok (.invokevirtual 99, 3) := by decide +kernel
theorem dX6_knownIn_59 : decode cX6_knownIn 59 = .ok (.iinc 2 1, 3) := by decide +kernel
theorem dX6_knownIn_62 : decode cX6_knownIn 62 = .ok (.goto (-28), 3) := by decide +kernel
theorem dX6_knownIn_65 : decode cX6_knownIn 65 = .ok (.aload_n 0, 1) := by decide +kernel
theorem dX6_knownIn_66 : decode cX6_knownIn 66 = .ok (.invokevirtual 155, 3) := by decide +kernel
theorem dX6_knownIn_69 : decode cX6_knownIn 69 = .ok (.iload_n 2, 1) := by decide +kernel
theorem dX6_knownIn_70 : decode cX6_knownIn 70 = .ok (.sipush 200, 3) := by decide +kernel
theorem dX6_knownIn_73 : decode cX6_knownIn 73 = .ok (.if_icmp .le 8, 3) := by decide +kernel
theorem dX6_knownIn_76 : decode cX6_knownIn 76 = .ok (.bipush (-6), 2) := by decide +kernel
theorem dX6_knownIn_78 : decode cX6_knownIn 78 = .ok (.goto 4, 3) := by decide +kernel
theorem dX6_knownIn_81 : decode cX6_knownIn 81 = .ok (.iload_n 2, 1) := by decide +kernel
theorem dX6_knownIn_82 : decode cX6_knownIn 82 = .ok (.ireturn, 1) := by decide +kernel
theorem dX6_hurtsBy_0 : decode cX6_hurtsBy 0 = .ok (.aload_n 0, 1) := by decide +kernel
theorem dX6_hurtsBy_1 : decode cX6_hurtsBy 1 = .ok (.invokevirtual 102, 3) := by decide +kernel
theorem dX6_hurtsBy_4 : decode cX6_hurtsBy 4 = .ok (.aload_n 0, 1) := by decide +kernel
theorem dX6_hurtsBy_5 : decode cX6_hurtsBy 5 = .ok (.iload_n 1, 1) := by decide +kernel
theorem dX6_hurtsBy_6 : decode cX6_hurtsBy 6 = .ok (.iload_n 2, 1) := by decide +kernel
theorem dX6_hurtsBy_7 : decode cX6_hurtsBy 7 = .ok (.iload_n 3, 1) := by decide +kernel
theorem dX6_hurtsBy_8 : decode cX6_hurtsBy 8 = .ok (.invokevirtual 123, 3) := by decide +kernel
theorem dX6_hurtsBy_11 : decode cX6_hurtsBy 11 = .ok (.istore 4, 2) := by decide +kernel
theorem dX6_hurtsBy_13 : decode cX6_hurtsBy 13 = .ok (.aload_n 0, 1) := by decide +kernel
theorem dX6_hurtsBy_14 : decode cX6_hurtsBy 14 = .ok (.getfield 7, 3) := by decide +kernel
theorem dX6_hurtsBy_17 : decode cX6_hurtsBy 17 = .ok (.sipush 299, 3) := by decide +kernel
theorem dX6_hurtsBy_20 : decode cX6_hurtsBy 20 = .ok (.iaload, 1) := by decide +kernel
theorem dX6_hurtsBy_21 : decode cX6_hurtsBy 21 = .ok (.istore 5, 2) := by decide +kernel
theorem dX6_hurtsBy_23 : decode cX6_hurtsBy 23 = .ok (.iload 4, 2) := by decide +kernel
theorem dX6_hurtsBy_25 : decode cX6_hurtsBy 25 = .ok (.ifCond .lt 23, 3) := by decide +kernel
theorem dX6_hurtsBy_28 : decode cX6_hurtsBy 28 = .ok (.aload_n 0, 1) := by decide +kernel
theorem dX6_hurtsBy_29 : decode cX6_hurtsBy 29 = .ok (.getfield 7, 3) := by decide +kernel
theorem dX6_hurtsBy_32 : decode cX6_hurtsBy 32 = .ok (.iload_n 1, 1) := by decide +kernel
theorem dX6_hurtsBy_33 : decode cX6_hurtsBy 33 = .ok (.iconst 4, 1) := by decide +kernel
theorem dX6_hurtsBy_34 : decode cX6_hurtsBy 34 = .ok (.invokestatic 58, 3) := by decide +kernel
theorem dX6_hurtsBy_37 : decode cX6_hurtsBy 37 = .ok (.iaload, 1) := by decide +kernel
theorem dX6_hurtsBy_38 : decode cX6_hurtsBy 38 = .ok (.ifCond .eq 10, 3) := by decide +kernel
theorem dX6_hurtsBy_41 : decode cX6_hurtsBy 41 = .ok (.aload_n 0, 1) := by decide +kernel
theorem dX6_hurtsBy_42 : decode cX6_hurtsBy 42 = .ok (.invokevirtual 99, 3) := by decide +kernel
theorem dX6_hurtsBy_45 : decode cX6_hurtsBy 45 = .ok (.goto (-22), 3) := by decide +kernel
theorem dX6_hurtsBy_48 : decode cX6_hurtsBy 48 = .ok (.aload_n 0, 1) := by decide +kernel
theorem dX6_hurtsBy_49 : decode cX6_hurtsBy 49 = .ok (.getfield 7, 3) := by decide +kernel
theorem dX6_hurtsBy_52 : decode cX6_hurtsBy 52 = .ok (.sipush 299, 3) := by decide +kernel
theorem dX6_hurtsBy_55 : decode cX6_hurtsBy 55 = .ok (.iaload, 1) := by decide +kernel
theorem dX6_hurtsBy_56 : decode cX6_hurtsBy 56 = .ok (.iload 5, 2) := by decide +kernel
theorem dX6_hurtsBy_58 : decode cX6_hurtsBy 58 = .ok (.isub, 1) := by decide +kernel
theorem dX6_hurtsBy_59 : decode cX6_hurtsBy 59 = .ok (.istore 6, 2) := by decide +kernel
theorem dX6_hurtsBy_61 : decode cX6_hurtsBy 61 = .ok (.aload_n 0, 1) := by decide +kernel
theorem dX6_hurtsBy_62 : decode cX6_hurtsBy 62 = .ok (.invokevirtual 155, 3) := by decide +kernel
theorem dX6_hurtsBy_65 : decode cX6_hurtsBy 65 = .ok (.iload 4, 2) := by decide +kernel
theorem dX6_hurtsBy_67 : decode cX6_hurtsBy 67 = .ok (.ifCond .ge 8, 3) := by decide +kernel
theorem dX6_hurtsBy_70 : decode cX6_hurtsBy 70 = .ok (.iload 4, 2) := by decide +kernel
theorem dX6_hurtsBy_72 : decode cX6_hurtsBy 72 = .ok (.goto 5, 3) := by decide +kernel
theorem dX6_hurtsBy_75 : decode cX6_hurtsBy 75 = .ok (.iload 6, 2) := by decide +kernel
theorem dX6_hurtsBy_77 : decode cX6_hurtsBy 77 = .ok (.ireturn, 1) := by decide +kernel
theorem dX6_wouldHurt_0 : decode cX6_wouldHurt 0 = .ok (.aload_n 0, 1) := by decide +kernel
theorem dX6_wouldHurt_1 : decode cX6_wouldHurt 1 = .ok (.iload_n 1, 1) := by decide +kernel
theorem dX6_wouldHurt_2 : decode cX6_wouldHurt 2 = .ok (.iload_n 2, 1) := by decide +kernel
theorem dX6_wouldHurt_3 : decode cX6_wouldHurt 3 = .ok (.iload_n 3, 1) := by decide +kernel
theorem dX6_wouldHurt_4 : decode cX6_wouldHurt 4 = .ok (.invokevirtual 158, 3) := by decide +kernel
theorem dX6_wouldHurt_7 : decode cX6_wouldHurt 7 = .ok (.ireturn, 1) := by decide +kernel
theorem dX6_safeSpeed_0 : decode cX6_safeSpeed 0 = .ok (.bipush (-6), 2) := by decide +kernel
theorem dX6_safeSpeed_2 : decode cX6_safeSpeed 2 = .ok (.istore_n 3, 1) := by decide +kernel
theorem dX6_safeSpeed_3 : decode cX6_safeSpeed 3 = .ok (.aload_n 0, 1) := by decide +kernel
theorem dX6_safeSpeed_4 : decode cX6_safeSpeed 4 = .ok (.iload_n 1, 1) := by decide +kernel
theorem dX6_safeSpeed_5 : decode cX6_safeSpeed 5 = .ok (.iload_n 2, 1) := by decide +kernel
theorem dX6_safeSpeed_6 : decode cX6_safeSpeed 6 = .ok (.iconst 1, 1) := by decide +kernel
theorem dX6_safeSpeed_7 : decode cX6_safeSpeed 7 = .ok (.invokevirtual 158, 3) := by decide +kernel
theorem dX6_safeSpeed_10 : decode cX6_safeSpeed 10 = .ok (.istore 4, 2) := by decide +kernel
theorem dX6_safeSpeed_12 : decode cX6_safeSpeed 12 = .ok (.iconst 1, 1) := by decide +kernel
theorem dX6_safeSpeed_13 : decode cX6_safeSpeed 13 = .ok (.istore 5, 2) := by decide +kernel
theorem dX6_safeSpeed_15 : decode cX6_safeSpeed 15 = .ok (.iload 5, 2) := by decide +kernel
theorem dX6_safeSpeed_17 : decode cX6_safeSpeed 17 = .ok (.bipush 24, 2) := by decide +kernel
theorem dX6_safeSpeed_19 : decode cX6_safeSpeed 19 = .ok (.if_icmp .gt 32, 3) := by decide +kernel
theorem dX6_safeSpeed_22 : decode cX6_safeSpeed 22 = .ok (.iload 4, 2) := by decide +kernel
theorem dX6_safeSpeed_24 : decode cX6_safeSpeed 24 = .ok (.ifCond .lt 27, 3) := by decide +kernel
theorem dX6_safeSpeed_27 : decode cX6_safeSpeed 27 = .ok (.aload_n 0, 1) := by decide +kernel
theorem dX6_safeSpeed_28 : decode cX6_safeSpeed 28 = .ok (.iload_n 1, 1) := by decide +kernel
theorem dX6_safeSpeed_29 : decode cX6_safeSpeed 29 = .ok (.iload_n 2, 1) := by decide +kernel
theorem dX6_safeSpeed_30 : decode cX6_safeSpeed 30 = .ok (.iload 5, 2) := by decide +kernel
theorem dX6_safeSpeed_32 : decode cX6_safeSpeed 32 = .ok (.invokevirtual 158, 3) := by decide +kernel
theorem dX6_safeSpeed_35 : decode cX6_safeSpeed 35 = .ok (.ifCond .ne 8, 3) := by decide +kernel
theorem dX6_safeSpeed_38 : decode cX6_safeSpeed 38 = .ok (.iload 5, 2) := by decide +kernel
theorem dX6_safeSpeed_40 : decode cX6_safeSpeed 40 = .ok (.goto 4, 3) := by decide +kernel
theorem dX6_safeSpeed_43 : decode cX6_safeSpeed 43 = .ok (.iload_n 3, 1) := by decide +kernel
theorem dX6_safeSpeed_44 : decode cX6_safeSpeed 44 = .ok (.istore_n 3, 1) := by decide +kernel
theorem dX6_safeSpeed_45 : decode cX6_safeSpeed 45 = .ok (.iinc 5 1, 3) := by decide +kernel
theorem dX6_safeSpeed_48 : decode cX6_safeSpeed 48 = .ok (.goto (-33), 3) := by decide +kernel
theorem dX6_safeSpeed_51 : decode cX6_safeSpeed 51 = .ok (.iload 4, 2) := by decide +kernel
theorem dX6_safeSpeed_53 : decode cX6_safeSpeed 53 = .ok (.ifCond .ge 8, 3) := by decide +kernel
theorem dX6_safeSpeed_56 : decode cX6_safeSpeed 56 = .ok (.iload 4, 2) := by decide +kernel
theorem dX6_safeSpeed_58 : decode cX6_safeSpeed 58 = .ok (.goto 4, 3) := by decide +kernel
theorem dX6_safeSpeed_61 : decode cX6_safeSpeed 61 = .ok (.iload_n 3, 1) := by decide +kernel
theorem dX6_safeSpeed_62 : decode cX6_safeSpeed 62 = .ok (.ireturn, 1) := by decide +kernel
theorem dX6_quietIn_0 : decode cX6_quietIn 0 = .ok (.aload_n 0, 1) := by decide +kernel
theorem dX6_quietIn_1 : decode cX6_quietIn 1 = .ok (.invokevirtual 102, 3) := by decide +kernel
theorem dX6_quietIn_4 : decode cX6_quietIn 4 = .ok (.iconst 0, 1) := by decide +kernel
theorem dX6_quietIn_5 : decode cX6_quietIn 5 = .ok (.istore_n 1, 1) := by decide +kernel
theorem dX6_quietIn_6 : decode cX6_quietIn 6 = .ok (.iload_n 1, 1) := by decide +kernel
theorem dX6_quietIn_7 : decode cX6_quietIn 7 = .ok (.sipush 200, 3) := by decide +kernel
theorem dX6_quietIn_10 : decode cX6_quietIn 10 = .ok (.if_icmp .gt 22, 3) := by decide +kernel
theorem dX6_quietIn_13 : decode cX6_quietIn 13 = .ok (.aload_n 0, 1) := by decide +kernel
theorem dX6_quietIn_14 : decode cX6_quietIn 14 = .ok (.bipush (-6), 2) := by decide +kernel
theorem dX6_quietIn_16 : decode cX6_quietIn 16 = .ok (.invokevirtual 130, 3) := by decide +kernel
theorem dX6_quietIn_19 : decode cX6_quietIn 19 = .ok (.ifCond .le 13, 3) := by decide +kernel
theorem dX6_quietIn_22 : decode cX6_quietIn 22 = .ok (.aload_n 0, 1) := by decide +kernel
theorem dX6_quietIn_23 : decode cX6_quietIn 23 = .ok (.invokevirtual 99, 3) := by decide +kernel
theorem dX6_quietIn_26 : decode cX6_quietIn 26 = .ok (.iinc 1 1, 3) := by decide +kernel
theorem dX6_quietIn_29 : decode cX6_quietIn 29 = .ok (.goto (-23), 3) := by decide +kernel
theorem dX6_quietIn_32 : decode cX6_quietIn 32 = .ok (.aload_n 0, 1) := by decide +kernel
theorem dX6_quietIn_33 : decode cX6_quietIn 33 = .ok (.invokevirtual 155, 3) := by decide +kernel
theorem dX6_quietIn_36 : decode cX6_quietIn 36 = .ok (.iload_n 1, 1) := by decide +kernel
theorem dX6_quietIn_37 : decode cX6_quietIn 37 = .ok (.sipush 200, 3) := by decide +kernel
theorem dX6_quietIn_40 : decode cX6_quietIn 40 = .ok (.if_icmp .le 8, 3) := by decide +kernel
theorem dX6_quietIn_43 : decode cX6_quietIn 43 = .ok (.bipush (-6), 2) := by decide +kernel
theorem dX6_quietIn_45 : decode cX6_quietIn 45 = .ok (.goto 4, 3) := by decide +kernel
theorem dX6_quietIn_48 : decode cX6_quietIn 48 = .ok (.iload_n 1, 1) := by decide +kernel
theorem dX6_quietIn_49 : decode cX6_quietIn 49 = .ok (.ireturn, 1) := by decide +kernel
theorem dX6_put_0 : decode cX6_put 0 = .ok (.iconst 0, 1) := by decide +kernel
theorem dX6_put_1 : decode cX6_put 1 = .ok (.istore_n 3, 1) := by decide +kernel
theorem dX6_put_2 : decode cX6_put 2 = .ok (.iconst 0, 1) := by decide +kernel
theorem dX6_put_3 : decode cX6_put 3 = .ok (.istore 4, 2) := by decide +kernel
theorem dX6_put_5 : decode cX6_put 5 = .ok (.lload_n 1, 1) := by decide +kernel
theorem dX6_put_6 : decode cX6_put 6 = .ok (.ldc2_w 161, 3) := by decide +kernel
theorem dX6_put_9 : decode cX6_put 9 = .ok (.land, 1) := by decide +kernel
theorem dX6_put_10 : decode cX6_put 10 = .ok (.lconst 0, 1) := by decide +kernel
theorem dX6_put_11 : decode cX6_put 11 = .ok (.lcmp, 1) := by decide +kernel
theorem dX6_put_12 : decode cX6_put 12 = .ok (.ifCond .ne 7, 3) := by decide +kernel
theorem dX6_put_15 : decode cX6_put 15 = .ok (.iconst 1, 1) := by decide +kernel
theorem dX6_put_16 : decode cX6_put 16 = .ok (.goto 4, 3) := by decide +kernel
theorem dX6_put_19 : decode cX6_put 19 = .ok (.iconst 0, 1) := by decide +kernel
theorem dX6_put_20 : decode cX6_put 20 = .ok (.istore 5, 2) := by decide +kernel
theorem dX6_put_22 : decode cX6_put 22 = .ok (.iconst 0, 1) := by decide +kernel
theorem dX6_put_23 : decode cX6_put 23 = .ok (.istore 6, 2) := by decide +kernel
theorem dX6_put_25 : decode cX6_put 25 = .ok (.iload 6, 2) := by decide +kernel
theorem dX6_put_27 : decode cX6_put 27 = .ok (.bipush 8, 2) := by decide +kernel
theorem dX6_put_29 : decode cX6_put 29 = .ok (.if_icmp .ge 90, 3) := by decide +kernel
theorem dX6_put_32 : decode cX6_put 32 = .ok (.lload_n 1, 1) := by decide +kernel
theorem dX6_put_33 : decode cX6_put 33 = .ok (.bipush 8, 2) := by decide +kernel
theorem dX6_put_35 : decode cX6_put 35 = .ok (.iload 6, 2) := by decide +kernel
theorem dX6_put_37 : decode cX6_put 37 = .ok (.imul, 1) := by decide +kernel
theorem dX6_put_38 : decode cX6_put 38 = .ok (.lshr, 1) := by decide +kernel
theorem dX6_put_39 : decode cX6_put 39 = .ok (.ldc2_w 161, 3) := by decide +kernel
theorem dX6_put_42 : decode cX6_put 42 = .ok (.land, 1) := by decide +kernel
theorem dX6_put_43 : decode cX6_put 43 = .ok (.l2i, 1) := by decide +kernel
theorem dX6_put_44 : decode cX6_put 44 = .ok (.istore 7, 2) := by decide +kernel
theorem dX6_put_46 : decode cX6_put 46 = .ok (.iload 4, 2) := by decide +kernel
theorem dX6_put_48 : decode cX6_put 48 = .ok (.ifCond .ne 8, 3) := by decide +kernel
theorem dX6_put_51 : decode cX6_put 51 = .ok (.iload 7, 2) := by decide +kernel
theorem dX6_put_53 : decode cX6_put 53 = .ok (.ifCond .ne 7, 3) := by decide +kernel
theorem dX6_put_56 : decode cX6_put 56 = .ok (.iconst 1, 1) := by decide +kernel
theorem dX6_put_57 : decode cX6_put 57 = .ok (.goto 4, 3) := by decide +kernel
theorem dX6_put_60 : decode cX6_put 60 = .ok (.iconst 0, 1) := by decide +kernel
theorem dX6_put_61 : decode cX6_put 61 = .ok (.istore 4, 2) := by decide +kernel
theorem dX6_put_63 : decode cX6_put 63 = .ok (.iload 5, 2) := by decide +kernel
theorem dX6_put_65 : decode cX6_put 65 = .ok (.ifCond .ne 28, 3) := by decide +kernel
theorem dX6_put_68 : decode cX6_put 68 = .ok (.iload 4, 2) := by decide +kernel
theorem dX6_put_70 : decode cX6_put 70 = .ok (.ifCond .eq 11, 3) := by decide +kernel
theorem dX6_put_73 : decode cX6_put 73 = .ok (.iload 7, 2) := by decide +kernel
theorem dX6_put_75 : decode cX6_put 75 = .ok (.ifCond .eq 22, 3) := by decide +kernel
theorem dX6_put_78 : decode cX6_put 78 = .ok (.goto 15, 3) := by decide +kernel
theorem dX6_put_81 : decode cX6_put 81 = .ok (.iload 7, 2) := by decide +kernel
theorem dX6_put_83 : decode cX6_put 83 = .ok (.bipush 33, 2) := by decide +kernel
theorem dX6_put_85 : decode cX6_put 85 = .ok (.bipush 126, 2) := by decide +kernel
theorem dX6_put_87 : decode cX6_put 87 = .ok (.invokestatic 25, 3) := by decide +kernel
theorem dX6_put_90 : decode cX6_put 90 = .ok (.ifCond .ne 7, 3) := by decide +kernel
theorem dX6_put_93 : decode cX6_put 93 = .ok (.iconst 1, 1) := by decide +kernel
theorem dX6_put_94 : decode cX6_put 94 = .ok (.goto 4, 3) := by decide +kernel
theorem dX6_put_97 : decode cX6_put 97 = .ok (.iconst 0, 1) := by decide +kernel
theorem dX6_put_98 : decode cX6_put 98 = .ok (.istore 5, 2) := by decide +kernel
theorem dX6_put_100 : decode cX6_put 100 = .ok (.iload_n 3, 1) := by decide +kernel
theorem dX6_put_101 : decode cX6_put 101 = .ok (.iload 4, 2) := by decide +kernel
theorem dX6_put_103 : decode cX6_put 103 = .ok (.ifCond .eq 7, 3) := by decide +kernel
theorem dX6_put_106 : decode cX6_put 106 = .ok (.iconst 0, 1) := by decide +kernel
theorem dX6_put_107 : decode cX6_put 107 = .ok (.goto 4, 3) := by decide +kernel
theorem dX6_put_110 : decode cX6_put 110 = .ok (.iconst 1, 1) := by decide +kernel
theorem dX6_put_111 : decode cX6_put 111 = .ok (.iadd, 1) := by decide +kernel
theorem dX6_put_112 : decode cX6_put 112 = .ok (.istore_n 3, 1) := by decide +kernel
theorem dX6_put_113 : decode cX6_put 113 = .ok (.iinc 6 1, 3) := by decide +kernel
theorem dX6_put_116 : decode cX6_put 116 = .ok (.goto (-91), 3) := by decide +kernel
theorem dX6_put_119 : decode cX6_put 119 = .ok (.iload 5, 2) := by decide +kernel
theorem dX6_put_121 : decode cX6_put 121 = .ok (.ifCond .eq 6, 3) := by decide +kernel
theorem dX6_put_124 : decode cX6_put 124 = .ok (.bipush (-2), 2) := by decide +kernel
theorem dX6_put_126 : decode cX6_put 126 = .ok (.ireturn, 1) := by decide +kernel
theorem dX6_put_127 : decode cX6_put 127 = .ok (.aload_n 0, 1) := by decide +kernel
theorem dX6_put_128 : decode cX6_put 128 = .ok (.getfield 152, 3) := by decide +kernel
theorem dX6_put_131 : decode cX6_put 131 = .ok (.iload_n 3, 1) := by decide +kernel
theorem dX6_put_132 : decode cX6_put 132 = .ok (.iadd, 1) := by decide +kernel
theorem dX6_put_133 : decode cX6_put 133 = .ok (.bipush 80, 2) := by decide +kernel
theorem dX6_put_135 : decode cX6_put 135 = .ok (.if_icmp .le 6, 3) := by decide +kernel
theorem dX6_put_138 : decode cX6_put 138 = .ok (.bipush (-4), 2) := by decide +kernel
theorem dX6_put_140 : decode cX6_put 140 = .ok (.ireturn, 1) := by decide +kernel
theorem dX6_put_141 : decode cX6_put 141 = .ok (.iload_n 3, 1) := by decide +kernel
theorem dX6_put_142 : decode cX6_put 142 = .ok (.iconst 1, 1) := by decide +kernel
theorem dX6_put_143 : decode cX6_put 143 = .ok (.isub, 1) := by decide +kernel
theorem dX6_put_144 : decode cX6_put 144 = .ok (.istore 6, 2) := by decide +kernel
theorem dX6_put_146 : decode cX6_put 146 = .ok (.iload 6, 2) := by decide +kernel
theorem dX6_put_148 : decode cX6_put 148 = .ok (.ifCond .lt 40, 3) := by decide +kernel
theorem dX6_put_151 : decode cX6_put 151 = .ok (.aload_n 0, 1) := by decide +kernel
theorem dX6_put_152 : decode cX6_put 152 = .ok (.getfield 22, 3) := by decide +kernel
theorem dX6_put_155 : decode cX6_put 155 = .ok (.aload_n 0, 1) := by decide +kernel
theorem dX6_put_156 : decode cX6_put 156 = .ok (.getfield 152, 3) := by decide +kernel
theorem dX6_put_159 : decode cX6_put 159 = .ok (.lload_n 1, 1) := by decide +kernel
theorem dX6_put_160 : decode cX6_put 160 = .ok (.bipush 8, 2) := by decide +kernel
theorem dX6_put_162 : decode cX6_put 162 = .ok (.iload 6, 2) := by decide +kernel
theorem dX6_put_164 : decode cX6_put 164 = .ok (.imul, 1) := by decide +kernel
theorem dX6_put_165 : decode cX6_put 165 = .ok (.lshr, 1) := by decide +kernel
theorem dX6_put_166 : decode cX6_put 166 = .ok (.ldc2_w 161, 3) := by decide +kernel
theorem dX6_put_169 : decode cX6_put 169 = .ok (.land, 1) := by decide +kernel
theorem dX6_put_170 : decode cX6_put 170 = .ok (.l2i, 1) := by decide +kernel
theorem dX6_put_171 : decode cX6_put 171 = .ok (.iastore, 1) := by decide +kernel
theorem dX6_put_172 : decode cX6_put 172 = .ok (.aload_n 0, 1) := by decide +kernel
theorem dX6_put_173 : decode cX6_put 173 = .ok (.dup, 1) := by decide +kernel
theorem dX6_put_174 : decode cX6_put 174 = .ok (.getfield 152, 3) := by decide +kernel
theorem dX6_put_177 : decode cX6_put 177 = .ok (.iconst 1, 1) := by decide +kernel
theorem dX6_put_178 : decode cX6_put 178 = .ok (.iadd, 1) := by decide +kernel
theorem dX6_put_179 : decode cX6_put 179 = .ok (.putfield 152, 3) := by decide +kernel
theorem dX6_put_182 : decode cX6_put 182 = .ok (.iinc 6 (-1), 3) := by decide +kernel
theorem dX6_put_185 : decode cX6_put 185 = .ok (.goto (-39), 3) := by decide +kernel
theorem dX6_put_188 : decode cX6_put 188 = .ok (.aload_n 0, 1) := by decide +kernel
theorem dX6_put_189 : decode cX6_put 189 = .ok (.getfield 152, 3) := by decide +kernel
theorem dX6_put_192 : decode cX6_put 192 = .ok (.ireturn, 1) := by decide +kernel
theorem dX6_wipe_0 : decode cX6_wipe 0 = .ok (.aload_n 0, 1) := by decide +kernel
theorem dX6_wipe_1 : decode cX6_wipe 1 = .ok (.getfield 152, 3) := by decide +kernel
theorem dX6_wipe_4 : decode cX6_wipe 4 = .ok (.istore_n 1, 1) := by decide +kernel
theorem dX6_wipe_5 : decode cX6_wipe 5 = .ok (.aload_n 0, 1) := by decide +kernel
theorem dX6_wipe_6 : decode cX6_wipe 6 = .ok (.iconst 0, 1) := by decide +kernel
theorem dX6_wipe_7 : decode cX6_wipe 7 = .ok (.putfield 152, 3) := by decide +kernel
theorem dX6_wipe_10 : decode cX6_wipe 10 = .ok (.iload_n 1, 1) := by decide +kernel
theorem dX6_wipe_11 : decode cX6_wipe 11 = .ok (.ireturn, 1) := by decide +kernel
theorem dX6_isNext_0 : decode cX6_isNext 0 = .ok (.aload_n 0, 1) := by decide +kernel
theorem dX6_isNext_1 : decode cX6_isNext 1 = .ok (.getfield 163, 3) := by decide +kernel
theorem dX6_isNext_4 : decode cX6_isNext 4 = .ok (.ifCond .ne 35, 3) := by decide +kernel
theorem dX6_isNext_7 : decode cX6_isNext 7 = .ok (.aload_n 0, 1) := by decide +kernel
theorem dX6_isNext_8 : decode cX6_isNext 8 = .ok (.getfield 167, 3) := by decide +kernel
theorem dX6_isNext_11 : decode cX6_isNext 11 = .ok (.aload_n 0, 1) := by decide +kernel
theorem dX6_isNext_12 : decode cX6_isNext 12 = .ok (.getfield 152, 3) := by decide +kernel
theorem dX6_isNext_15 : decode cX6_isNext 15 = .ok (.if_icmp .ge 24, 3) := by decide +kernel
theorem dX6_isNext_18 : decode cX6_isNext 18 = .ok (.aload_n 0, 1) := by decide +kernel
theorem dX6_isNext_19 : decode cX6_isNext 19 = .ok (.getfield 22, 3) := by decide +kernel
theorem dX6_isNext_22 : decode cX6_isNext 22 = .ok (.aload_n 0, 1) := by decide +kernel
theorem dX6_isNext_23 : decode cX6_isNext 23 = .ok (.getfield 167, 3) := by decide +kernel
theorem dX6_isNext_26 : decode cX6_isNext 26 = .ok (.iaload, 1) := by decide +kernel
theorem dX6_isNext_27 : decode cX6_isNext 27 = .ok (.iload_n 1, 1) := by decide +kernel
theorem dX6_isNext_28 : decode cX6_isNext 28 = .ok (.iload_n 2, 1) := by decide +kernel
theorem dX6_isNext_29 : decode cX6_isNext 29 = .ok (.invokestatic 25, 3) := by decide +kernel
theorem dX6_isNext_32 : decode cX6_isNext 32 = .ok (.ifCond .eq 7, 3) := by decide +kernel
theorem dX6_isNext_35 : decode cX6_isNext 35 = .ok (.iconst 1, 1) := by decide +kernel
theorem dX6_isNext_36 : decode cX6_isNext 36 = .ok (.goto 4, 3) := by decide +kernel
theorem dX6_isNext_39 : decode cX6_isNext 39 = .ok (.iconst 0, 1) := by decide +kernel
theorem dX6_isNext_40 : decode cX6_isNext 40 = .ok (.ireturn, 1) := by decide +kernel
theorem dX6_takes_0 : decode cX6_takes 0 = .ok (.aload_n 0, 1) := by decide +kernel
theorem dX6_takes_1 : decode cX6_takes 1 = .ok (.iload_n 1, 1) := by decide +kernel
theorem dX6_takes_2 : decode cX6_takes 2 = .ok (.iload_n 2, 1) := by decide +kernel
theorem dX6_takes_3 : decode cX6_takes 3 = .ok (.invokevirtual 170, 3) := by decide +kernel
theorem dX6_takes_6 : decode cX6_takes 6 = .ok (.istore_n 3, 1) := by decide +kernel
theorem dX6_takes_7 : decode cX6_takes 7 = .ok (.iload_n 3, 1) := by decide +kernel
theorem dX6_takes_8 : decode cX6_takes 8 = .ok (.ifCond .eq 17, 3) := by decide +kernel
theorem dX6_takes_11 : decode cX6_takes 11 = .ok (.aload_n 0, 1) := by decide +kernel
theorem dX6_takes_12 : decode cX6_takes 12 = .ok (.getfield 22, 3) := by decide +kernel
theorem dX6_takes_15 : decode cX6_takes 15 = .ok (.aload_n 0, 1) := by decide +kernel
theorem dX6_takes_16 : decode cX6_takes 16 = .ok (.getfield 167, 3) := by decide +kernel
theorem dX6_takes_19 : decode cX6_takes 19 = .ok (.iaload, 1) := by decide +kernel
theorem dX6_takes_20 : decode cX6_takes 20 = .ok (.iload_n 1, 1) := by decide +kernel
theorem dX6_takes_21 : decode cX6_takes 21 = .ok (.isub, 1) := by decide +kernel
theorem dX6_takes_22 : decode cX6_takes 22 = .ok (.goto 4, 3) := by decide +kernel
theorem dX6_takes_25 : decode cX6_takes 25 = .ok (.iconst 0, 1) := by decide +kernel
theorem dX6_takes_26 : decode cX6_takes 26 = .ok (.istore 4, 2) := by decide +kernel
theorem dX6_takes_28 : decode cX6_takes 28 = .ok (.aload_n 0, 1) := by decide +kernel
theorem dX6_takes_29 : decode cX6_takes 29 = .ok (.dup, 1) := by decide +kernel
theorem dX6_takes_30 : decode cX6_takes 30 = .ok (.getfield 167, 3) := by decide +kernel
theorem dX6_takes_33 : decode cX6_takes 33 = .ok (.iload_n 3, 1) := by decide +kernel
theorem dX6_takes_34 : decode cX6_takes 34 = .ok (.ifCond .eq 7, 3) := by decide +kernel
theorem dX6_takes_37 : decode cX6_takes 37 = .ok (.iconst 1, 1) := by decide +kernel
theorem dX6_takes_38 : decode cX6_takes 38 = .ok (.goto 4, 3) := by decide +kernel
theorem dX6_takes_41 : decode cX6_takes 41 = .ok (.iconst 0, 1) := by decide +kernel
theorem dX6_takes_42 : decode cX6_takes 42 = .ok (.iadd, 1) := by decide +kernel
theorem dX6_takes_43 : decode cX6_takes 43 = .ok (.putfield 167, 3) := by decide +kernel
theorem dX6_takes_46 : decode cX6_takes 46 = .ok (.aload_n 0, 1) := by decide +kernel
theorem dX6_takes_47 : decode cX6_takes 47 = .ok (.aload_n 0, 1) := by decide +kernel
theorem dX6_takes_48 : decode cX6_takes 48 = .ok (.getfield 163, 3) := by decide +kernel
theorem dX6_takes_51 : decode cX6_takes 51 = .ok (.ifCond .ne 7, 3) := by decide +kernel
theorem dX6_takes_54 : decode cX6_takes 54 = .ok (.iload_n 3, 1) := by decide +kernel
theorem dX6_takes_55 : decode cX6_takes 55 = .ok (.ifCond .ne 7, 3) := by decide +kernel
theorem dX6_takes_58 : decode cX6_takes 58 = .ok (.iconst 1, 1) := by decide +kernel
theorem dX6_takes_59 : decode cX6_takes 59 = .ok (.goto 4, 3) := by decide +kernel
theorem dX6_takes_62 : decode cX6_takes 62 = .ok (.iconst 0, 1) := by decide +kernel
theorem dX6_takes_63 : decode cX6_takes 63 = .ok (.putfield 163, 3) := by decide +kernel
theorem dX6_takes_66 : decode cX6_takes 66 = .ok (.iload 4, 2) := by decide +kernel
theorem dX6_takes_68 : decode cX6_takes 68 = .ok (.ireturn, 1) := by decide +kernel
theorem dX6_number_0 : decode cX6_number 0 = .ok (.aload_n 0, 1) := by decide +kernel
theorem dX6_number_1 : decode cX6_number 1 = .ok (.bipush 48, 2) := by decide +kernel
theorem dX6_number_3 : decode cX6_number 3 = .ok (.bipush 57, 2) := by decide +kernel
theorem dX6_number_5 : decode cX6_number 5 = .ok (.invokevirtual 173, 3) := by decide +kernel
theorem dX6_number_8 : decode cX6_number 8 = .ok (.istore_n 1, 1) := by decide +kernel
theorem dX6_number_9 : decode cX6_number 9 = .ok (.iload_n 1, 1) := by decide +kernel
theorem dX6_number_10 : decode cX6_number 10 = .ok (.ifCond .le 28, 3) := by decide +kernel
theorem dX6_number_13 : decode cX6_number 13 = .ok (.aload_n 0, 1) := by decide +kernel
theorem dX6_number_14 : decode cX6_number 14 = .ok (.bipush 48, 2) := by decide +kernel
theorem dX6_number_16 : decode cX6_number 16 = .ok (.bipush 57, 2) := by decide +kernel
theorem dX6_number_18 : decode cX6_number 18 = .ok (.invokevirtual 170, 3) := by decide +kernel
theorem dX6_number_21 : decode cX6_number 21 = .ok (.ifCond .eq 17, 3) := by decide +kernel
theorem dX6_number_24 : decode cX6_number 24 = .ok (.bipush 10, 2) := by decide +kernel
theorem dX6_number_26 : decode cX6_number 26 = .ok (.iload_n 1, 1) := by decide +kernel
theorem dX6_number_27 : decode cX6_number 27 = .ok (.imul, 1) := by decide +kernel
theorem dX6_number_28 : decode cX6_number 28 = .ok (.aload_n 0, 1) := by decide +kernel
theorem dX6_number_29 : decode cX6_number 29 = .ok (.bipush 48, 2) := by decide +kernel
theorem dX6_number_31 : decode cX6_number 31 = .ok (.bipush 57, 2) := by decide +kernel
theorem dX6_number_33 : decode cX6_number 33 = .ok (.invokevirtual 173, 3) := by decide +kernel
theorem dX6_number_36 : decode cX6_number 36 = .ok (.iadd, 1) := by decide +kernel
theorem dX6_number_37 : decode cX6_number 37 = .ok (.istore_n 1, 1) := by decide +kernel
theorem dX6_number_38 : decode cX6_number 38 = .ok (.iload_n 1, 1) := by decide +kernel
theorem dX6_number_39 : decode cX6_number 39 = .ok (.ireturn, 1) := by decide +kernel
theorem dX6_between_0 : decode cX6_between 0 = .ok (.iload_n 0, 1) := by decide +kernel
theorem dX6_between_1 : decode cX6_between 1 = .ok (.bipush 98, 2) := by decide +kernel
theorem dX6_between_3 : decode cX6_between 3 = .ok (.if_icmp .ne 8, 3) := by decide +kernel
theorem dX6_between_6 : decode cX6_between 6 = .ok (.bipush 46, 2) := by decide +kernel
theorem dX6_between_8 : decode cX6_between 8 = .ok (.goto 16, 3) := by decide +kernel
theorem dX6_between_11 : decode cX6_between 11 = .ok (.iload_n 0, 1) := by decide +kernel
theorem dX6_between_12 : decode cX6_between 12 = .ok (.bipush 105, 2) := by decide +kernel
theorem dX6_between_14 : decode cX6_between 14 = .ok (.if_icmp .ne 8, 3) := by decide +kernel
theorem dX6_between_17 : decode cX6_between 17 = .ok (.bipush 64, 2) := by decide +kernel
theorem dX6_between_19 : decode cX6_between 19 = .ok (.goto 5, 3) := by decide +kernel
theorem dX6_between_22 : decode cX6_between 22 = .ok (.bipush 45, 2) := by decide +kernel
theorem dX6_between_24 : decode cX6_between 24 = .ok (.ireturn, 1) := by decide +kernel
theorem dX6_readOrder_0 : decode cX6_readOrder 0 = .ok (.aload_n 0, 1) := by decide +kernel
theorem dX6_readOrder_1 : decode cX6_readOrder 1 = .ok (.aload_n 0, 1) := by decide +kernel
theorem dX6_readOrder_2 : decode cX6_readOrder 2 = .ok (.getfield 167, 3) := by decide +kernel
theorem dX6_readOrder_5 : decode cX6_readOrder 5 = .ok (.aload_n 0, 1) := by decide +kernel
theorem dX6_readOrder_6 : decode cX6_readOrder 6 = .ok (.getfield 152, 3) := by decide +kernel
theorem dX6_readOrder_9 : decode cX6_readOrder 9 = .ok (.if_icmp .ge 15, 3) := by decide +kernel
theorem dX6_readOrder_12 : decode cX6_readOrder 12 = .ok (.aload_n 0, 1) := by decide +kernel
theorem dX6_readOrder_13 : decode cX6_readOrder 13 = .ok (.getfield 22, 3) := by decide +kernel
theorem dX6_readOrder_16 : decode cX6_readOrder 16 = .ok (.aload_n 0, 1) := by decide +kernel
theorem dX6_readOrder_17 : decode cX6_readOrder 17 = .ok (.getfield 167, 3) := by decide +kernel
theorem dX6_readOrder_20 : decode cX6_readOrder 20 = .ok (.iaload, 1) := by decide +kernel
theorem dX6_readOrder_21 : decode cX6_readOrder 21 = .ok (.goto 4, 3) := by decide +kernel
theorem dX6_readOrder_24 : decode cX6_readOrder 24 = .ok (.iconst 0, 1) := by decide +kernel
theorem dX6_readOrder_25 : decode cX6_readOrder 25 = .ok (.putfield 176, 3) := by decide +kernel
theorem dX6_readOrder_28 : decode cX6_readOrder 28 = .ok (.aload_n 0, 1) := by decide +kernel
theorem dX6_readOrder_29 : decode cX6_readOrder 29 = .ok (.aload_n 0, 1) := by decide +kernel
theorem dX6_readOrder_30 : decode cX6_readOrder 30 = .ok (.getfield 163, 3) := by decide +kernel
theorem dX6_readOrder_33 : decode cX6_readOrder 33 = .ok (.ifCond .ne 57, 3) := by decide +kernel
theorem dX6_readOrder_36 : decode cX6_readOrder 36 = .ok (.aload_n 0, 1) := by decide +kernel
theorem dX6_readOrder_37 : decode cX6_readOrder 37 = .ok (.getfield 176, 3) := by decide +kernel
theorem dX6_readOrder_40 : decode cX6_readOrder 40 = .ok (.bipush 98, 2) := by decide +kernel
theorem dX6_readOrder_42 : decode cX6_readOrder 42 = .ok (.if_icmp .eq 52, 3) := by decide +kernel
theorem dX6_readOrder_45 : decode cX6_readOrder 45 = .ok (.aload_n 0, 1) := by decide +kernel
theorem dX6_readOrder_46 : decode cX6_readOrder 46 = .ok (.getfield 176, 3) := by decide +kernel
theorem dX6_readOrder_49 : decode cX6_readOrder 49 = .ok (.bipush 105, 2) := by decide +kernel
theorem dX6_readOrder_51 : decode cX6_readOrder 51 = .ok (.if_icmp .eq 43, 3) := by decide +kernel
theorem dX6_readOrder_54 : decode cX6_readOrder 54 = .ok (.aload_n 0, 1) := by decide +kernel
theorem dX6_readOrder_55 : decode cX6_readOrder 55 = .ok (.getfield 176, 3) := by decide +kernel
theorem dX6_readOrder_58 : decode cX6_readOrder 58 = .ok (.bipush 111, 2) := by decide +kernel
theorem dX6_readOrder_60 : decode cX6_readOrder 60 = .ok (.if_icmp .eq 34, 3) := by decide +kernel
theorem dX6_readOrder_63 : decode cX6_readOrder 63 = .ok (.aload_n 0, 1) := by decide +kernel
theorem dX6_readOrder_64 : decode cX6_readOrder 64 = .ok (.getfield 176, 3) := by decide +kernel
theorem dX6_readOrder_67 : decode cX6_readOrder 67 = .ok (.bipush 97, 2) := by decide +kernel
theorem dX6_readOrder_69 : decode cX6_readOrder 69 = .ok (.if_icmp .eq 25, 3) := by decide +kernel
theorem dX6_readOrder_72 : decode cX6_readOrder 72 = .ok (.aload_n 0, 1) := by decide +kernel
theorem dX6_readOrder_73 : decode cX6_readOrder 73 = .ok (.getfield 176, 3) := by decide +kernel
theorem dX6_readOrder_76 : decode cX6_readOrder 76 = .ok (.bipush 119, 2) := by decide +kernel
theorem dX6_readOrder_78 : decode cX6_readOrder 78 = .ok (.if_icmp .eq 16, 3) := by decide +kernel
theorem dX6_readOrder_81 : decode cX6_readOrder 81 = .ok (.aload_n 0, 1) := by decide +kernel
theorem dX6_readOrder_82 : decode cX6_readOrder 82 = .ok (.getfield 176, 3) := by decide +kernel
theorem dX6_readOrder_85 : decode cX6_readOrder 85 = .ok (.bipush 116, 2) := by decide +kernel
theorem dX6_readOrder_87 : decode cX6_readOrder 87 = .ok (.if_icmp .eq 7, 3) := by decide +kernel
theorem dX6_readOrder_90 : decode cX6_readOrder 90 = .ok (.iconst 1, 1) := by decide +kernel
theorem dX6_readOrder_91 : decode cX6_readOrder 91 = .ok (.goto 4, 3) := by decide +kernel
theorem dX6_readOrder_94 : decode cX6_readOrder 94 = .ok (.iconst 0, 1) := by decide +kernel
theorem dX6_readOrder_95 : decode cX6_readOrder 95 = .ok (.putfield 163, 3) := by decide +kernel
theorem dX6_readOrder_98 : decode cX6_readOrder 98 = .ok (.aload_n 0, 1) := by decide +kernel
theorem dX6_readOrder_99 : decode cX6_readOrder 99 = .ok (.dup, 1) := by decide +kernel
theorem dX6_readOrder_100 : decode cX6_readOrder 100 = .ok (.getfield 167, 3) := by decide +kernel
theorem dX6_readOrder_103 : decode cX6_readOrder 103 = .ok (.aload_n 0, 1) := by decide +kernel
theorem dX6_readOrder_104 : decode cX6_readOrder 104 = .ok (.getfield 163, 3) := by decide +kernel
theorem dX6_readOrder_107 : decode cX6_readOrder 107 = .ok (.ifCond .eq 7, 3) := by decide +kernel
theorem dX6_readOrder_110 : decode cX6_readOrder 110 = .ok (.iconst 0, 1) := by decide +kernel
theorem dX6_readOrder_111 : decode cX6_readOrder 111 = .ok (.goto 4, 3) := by decide +kernel
theorem dX6_readOrder_114 : decode cX6_readOrder 114 = .ok (.iconst 1, 1) := by decide +kernel
theorem dX6_readOrder_115 : decode cX6_readOrder 115 = .ok (.iadd, 1) := by decide +kernel
theorem dX6_readOrder_116 : decode cX6_readOrder 116 = .ok (.putfield 167, 3) := by decide +kernel
theorem dX6_readOrder_119 : decode cX6_readOrder 119 = .ok (.aload_n 0, 1) := by decide +kernel
theorem dX6_readOrder_120 : decode cX6_readOrder 120 = .ok (.aload_n 0, 1) := by decide +kernel
theorem dX6_readOrder_121 : decode cX6_readOrder 121 = .ok (.getfield 176, 3) := by decide +kernel
theorem dX6_readOrder_124 : decode cX6_readOrder 124 = .ok (.bipush 98, 2) := by decide +kernel
theorem dX6_readOrder_126 : decode cX6_readOrder 126 = .ok (.if_icmp .eq 12, 3) := by decide +kernel
theorem dX6_readOrder_129 : decode cX6_readOrder 129 = .ok (.aload_n 0, 1) := by decide +kernel
theorem dX6_readOrder_130 : decode cX6_readOrder 130 = .ok (.getfield 176, 3) := by decide +kernel
theorem dX6_readOrder_133 : decode cX6_readOrder 133 = .ok (.bipush 116, 2) := by decide +kernel
theorem dX6_readOrder_135 : decode cX6_readOrder 135 = .ok (.if_icmp .ne 10, 3) := by decide +kernel
theorem dX6_readOrder_138 : decode cX6_readOrder 138 = .ok (.aload_n 0, 1) := by decide +kernel
theorem dX6_readOrder_139 : decode cX6_readOrder 139 = .ok (.invokevirtual 179, 3) := by decide +kernel
theorem dX6_readOrder_142 : decode cX6_readOrder 142 = .ok (.goto 11, 3) := by decide +kernel
theorem dX6_readOrder_145 : decode cX6_readOrder 145 = .ok (.aload_n 0, 1) := by decide +kernel
theorem dX6_readOrder_146 : decode cX6_readOrder 146 = .ok (.bipush 48, 2) := by decide +kernel
theorem dX6_readOrder_148 : decode cX6_readOrder 148 = .ok (.bipush 57, 2) := by decide +kernel
theorem dX6_readOrder_150 : decode cX6_readOrder 150 = .ok (.invokevirtual 173, 3) := by decide +kernel
theorem dX6_readOrder_153 : decode cX6_readOrder 153 = .ok (.putfield 182, 3) := by decide +kernel
theorem dX6_readOrder_156 : decode cX6_readOrder 156 = .ok (.aload_n 0, 1) := by decide +kernel
theorem dX6_readOrder_157 : decode cX6_readOrder 157 = .ok (.getfield 176, 3) := by decide +kernel
theorem dX6_readOrder_160 : decode cX6_readOrder 160 = .ok (.bipush 98, 2) := by decide +kernel
theorem dX6_readOrder_162 : decode cX6_readOrder 162 = .ok (.if_icmp .eq 21, 3) := by decide +kernel
theorem dX6_readOrder_165 : decode cX6_readOrder 165 = .ok (.aload_n 0, 1) := by decide +kernel
theorem dX6_readOrder_166 : decode cX6_readOrder 166 = .ok (.getfield 176, 3) := by decide +kernel
theorem dX6_readOrder_169 : decode cX6_readOrder 169 = .ok (.bipush 105, 2) := by decide +kernel
theorem dX6_readOrder_171 : decode cX6_readOrder 171 = .ok (.if_icmp .eq 12, 3) := by decide +kernel
theorem dX6_readOrder_174 : decode cX6_readOrder 174 = .ok (.aload_n 0, 1) := by decide +kernel
theorem dX6_readOrder_175 : decode cX6_readOrder 175 = .ok (.getfield 176, 3) := by decide +kernel
theorem dX6_readOrder_178 : decode cX6_readOrder 178 = .ok (.bipush 111, 2) := by decide +kernel
theorem dX6_readOrder_180 : decode cX6_readOrder 180 = .ok (.if_icmp .ne 50, 3) := by decide +kernel
theorem dX6_readOrder_183 : decode cX6_readOrder 183 = .ok (.aload_n 0, 1) := by decide +kernel
theorem dX6_readOrder_184 : decode cX6_readOrder 184 = .ok (.aload_n 0, 1) := by decide +kernel
theorem dX6_readOrder_185 : decode cX6_readOrder 185 = .ok (.getfield 176, 3) := by decide +kernel
theorem dX6_readOrder_188 : decode cX6_readOrder 188 = .ok (.invokestatic 185, 3) := by decide +kernel
theorem dX6_readOrder_191 : decode cX6_readOrder 191 = .ok (.aload_n 0, 1) := by decide +kernel
theorem dX6_readOrder_192 : decode cX6_readOrder 192 = .ok (.getfield 176, 3) := by decide +kernel
theorem dX6_readOrder_195 : decode cX6_readOrder 195 = .ok (.invokestatic 185, 3) := by decide +kernel
theorem dX6_readOrder_198 : decode cX6_readOrder 198 = .ok (.invokevirtual 173, 3) := by decide +kernel
theorem dX6_readOrder_201 : decode cX6_readOrder 201 = .ok (.istore_n 1, 1) := by decide +kernel
theorem dX6_readOrder_202 : decode cX6_readOrder 202 = .ok (.aload_n 0, 1) := by decide +kernel
theorem dX6_readOrder_203 : decode cX6_readOrder 203 = .ok (.aload_n 0, 1) := by decide +kernel
theorem dX6_readOrder_204 : decode cX6_readOrder 204 = .ok (.getfield 176, 3) := by decide +kernel
theorem dX6_readOrder_207 : decode cX6_readOrder 207 = .ok (.bipush 105, 2) := by decide +kernel
theorem dX6_readOrder_209 : decode cX6_readOrder 209 = .ok (.if_icmp .ne 14, 3) := by decide +kernel
theorem dX6_readOrder_212 : decode cX6_readOrder 212 = .ok (.aload_n 0, 1) := by decide +kernel
theorem dX6_readOrder_213 : decode cX6_readOrder 213 = .ok (.bipush 48, 2) := by decide +kernel
theorem dX6_readOrder_215 : decode cX6_readOrder 215 = .ok (.bipush 57, 2) := by decide +kernel
theorem dX6_readOrder_217 : decode cX6_readOrder 217 = .ok (.invokevirtual 173, 3) := by decide +kernel
theorem dX6_readOrder_220 : decode cX6_readOrder 220 = .ok (.goto 7, 3) := by decide +kernel
theorem dX6_readOrder_223 : decode cX6_readOrder 223 = .ok (.aload_n 0, 1) := by decide +kernel
theorem dX6_readOrder_224 : decode cX6_readOrder 224 = .ok (.invokevirtual 179, 3) := by decide +kernel
theorem dX6_readOrder_227 : decode cX6_readOrder 227 = .ok (.putfield 188, 3) := by decide +kernel
theorem dX6_readOrder_230 : decode cX6_readOrder 230 = .ok (.aload_n 0, 1) := by decide +kernel
theorem dX6_readOrder_231 : decode cX6_readOrder 231 = .ok (.getfield 176, 3) := by decide +kernel
theorem dX6_readOrder_234 : decode cX6_readOrder 234 = .ok (.bipush 105, 2) := by decide +kernel
theorem dX6_readOrder_236 : decode cX6_readOrder 236 = .ok (.if_icmp .ne 20, 3) := by decide +kernel
theorem dX6_readOrder_239 : decode cX6_readOrder 239 = .ok (.aload_n 0, 1) := by decide +kernel
theorem dX6_readOrder_240 : decode cX6_readOrder 240 = .ok (.bipush 43, 2) := by decide +kernel
theorem dX6_readOrder_242 : decode cX6_readOrder 242 = .ok (.bipush 43, 2) := by decide +kernel
theorem dX6_readOrder_244 : decode cX6_readOrder 244 = .ok (.invokevirtual 173, 3) := by decide +kernel
theorem dX6_readOrder_247 : decode cX6_readOrder 247 = .ok (.istore_n 1, 1) := by decide +kernel
theorem dX6_readOrder_248 : decode cX6_readOrder 248 = .ok (.aload_n 0, 1) := by decide +kernel
theorem dX6_readOrder_249 : decode cX6_readOrder 249 = .ok (.aload_n 0, 1) := by decide +kernel
theorem dX6_readOrder_250 : decode cX6_readOrder 250 = .ok (.invokevirtual 179, 3) := by decide +kernel
theorem dX6_readOrder_253 : decode cX6_readOrder 253 = .ok (.putfield 191, 3) := by decide +kernel
theorem dX6_readOrder_256 : decode cX6_readOrder 256 = .ok (.aload_n 0, 1) := by decide +kernel
theorem dX6_readOrder_257 : decode cX6_readOrder 257 = .ok (.getfield 176, 3) := by decide +kernel
theorem dX6_readOrder_260 : decode cX6_readOrder 260 = .ok (.bipush 119, 2) := by decide +kernel
theorem dX6_readOrder_262 : decode cX6_readOrder 262 = .ok (.if_icmp .ne 15, 3) := by decide +kernel
theorem dX6_readOrder_265 : decode cX6_readOrder 265 = .ok (.aload_n 0, 1) := by decide +kernel
theorem dX6_readOrder_266 : decode cX6_readOrder 266 = .ok (.aload_n 0, 1) := by decide +kernel
theorem dX6_readOrder_267 : decode cX6_readOrder 267 = .ok (.bipush 48, 2) := by decide +kernel
theorem dX6_readOrder_269 : decode cX6_readOrder 269 = .ok (.bipush 57, 2) := by decide +kernel
theorem dX6_readOrder_271 : decode cX6_readOrder 271 = .ok (.invokevirtual 173, 3) := by decide +kernel
theorem dX6_readOrder_274 : decode cX6_readOrder 274 = .ok (.putfield 188, 3) := by decide +kernel
theorem dX6_readOrder_277 : decode cX6_readOrder 277 = .ok (.return_, 1) := by decide +kernel
theorem dX6_does_0 : decode cX6_does 0 = .ok (.aload_n 0, 1) := by decide +kernel
theorem dX6_does_1 : decode cX6_does 1 = .ok (.getfield 176, 3) := by decide +kernel
theorem dX6_does_4 : decode cX6_does 4 = .ok (.lookupswitch 117 #[(97, 95), (98, 52), (105, 65), (111, 82), (119, 104)], 52) := by decide +kernel
theorem dX6_does_56 : decode cX6_does 56 = .ok (.aload_n 0, 1) := by decide +kernel
theorem dX6_does_57 : decode cX6_does 57 = .ok (.aload_n 0, 1) := by decide +kernel
theorem dX6_does_58 : decode cX6_does 58 = .ok (.getfield 182, 3) := by decide +kernel
theorem dX6_does_61 : decode cX6_does 61 = .ok (.aload_n 0, 1) := by decide +kernel
theorem dX6_does_62 : decode cX6_does 62 = .ok (.getfield 188, 3) := by decide +kernel
theorem dX6_does_65 : decode cX6_does 65 = .ok (.invokevirtual 114, 3) := by decide +kernel
theorem dX6_does_68 : decode cX6_does 68 = .ok (.ireturn, 1) := by decide +kernel
theorem dX6_does_69 : decode cX6_does 69 = .ok (.aload_n 0, 1) := by decide +kernel
theorem dX6_does_70 : decode cX6_does 70 = .ok (.aload_n 0, 1) := by decide +kernel
theorem dX6_does_71 : decode cX6_does 71 = .ok (.getfield 182, 3) := by decide +kernel
theorem dX6_does_74 : decode cX6_does 74 = .ok (.aload_n 0, 1) := by decide +kernel
theorem dX6_does_75 : decode cX6_does 75 = .ok (.getfield 188, 3) := by decide +kernel
theorem dX6_does_78 : decode cX6_does 78 = .ok (.aload_n 0, 1) := by decide +kernel
theorem dX6_does_79 : decode cX6_does 79 = .ok (.getfield 191, 3) := by decide +kernel
theorem dX6_does_82 : decode cX6_does 82 = .ok (.invokevirtual 123, 3) := by decide +kernel
theorem dX6_does_85 : decode cX6_does 85 = .ok (.ireturn, 1) := by decide +kernel
theorem dX6_does_86 : decode cX6_does 86 = .ok (.aload_n 0, 1) := by decide +kernel
theorem dX6_does_87 : decode cX6_does 87 = .ok (.aload_n 0, 1) := by decide +kernel
theorem dX6_does_88 : decode cX6_does 88 = .ok (.getfield 182, 3) := by decide +kernel
theorem dX6_does_91 : decode cX6_does 91 = .ok (.aload_n 0, 1) := by decide +kernel
theorem dX6_does_92 : decode cX6_does 92 = .ok (.getfield 188, 3) := by decide +kernel
theorem dX6_does_95 : decode cX6_does 95 = .ok (.invokevirtual 127, 3) := by decide +kernel
theorem dX6_does_98 : decode cX6_does 98 = .ok (.ireturn, 1) := by decide +kernel
theorem dX6_does_99 : decode cX6_does 99 = .ok (.aload_n 0, 1) := by decide +kernel
theorem dX6_does_100 : decode cX6_does 100 = .ok (.aload_n 0, 1) := by decide +kernel
theorem dX6_does_101 : decode cX6_does 101 = .ok (.getfield 182, 3) := by decide +kernel
theorem dX6_does_104 : decode cX6_does 104 = .ok (.invokevirtual 133, 3) := by decide +kernel
theorem dX6_does_107 : decode cX6_does 107 = .ok (.ireturn, 1) := by decide +kernel
theorem dX6_does_108 : decode cX6_does 108 = .ok (.aload_n 0, 1) := by decide +kernel
theorem dX6_does_109 : decode cX6_does 109 = .ok (.aload_n 0, 1) := by decide +kernel
theorem dX6_does_110 : decode cX6_does 110 = .ok (.getfield 182, 3) := by decide +kernel
theorem dX6_does_113 : decode cX6_does 113 = .ok (.aload_n 0, 1) := by decide +kernel
theorem dX6_does_114 : decode cX6_does 114 = .ok (.getfield 188, 3) := by decide +kernel
theorem dX6_does_117 : decode cX6_does 117 = .ok (.invokevirtual 139, 3) := by decide +kernel
theorem dX6_does_120 : decode cX6_does 120 = .ok (.ireturn, 1) := by decide +kernel
theorem dX6_does_121 : decode cX6_does 121 = .ok (.aload_n 0, 1) := by decide +kernel
theorem dX6_does_122 : decode cX6_does 122 = .ok (.aload_n 0, 1) := by decide +kernel
theorem dX6_does_123 : decode cX6_does 123 = .ok (.getfield 182, 3) := by decide +kernel
theorem dX6_does_126 : decode cX6_does 126 = .ok (.invokevirtual 142, 3) := by decide +kernel
theorem dX6_does_129 : decode cX6_does 129 = .ok (.ireturn, 1) := by decide +kernel
theorem dX6_goesThrough_0 : decode cX6_goesThrough 0 = .ok (.aload_n 0, 1) := by decide +kernel
theorem dX6_goesThrough_1 : decode cX6_goesThrough 1 = .ok (.iconst 0, 1) := by decide +kernel
theorem dX6_goesThrough_2 : decode cX6_goesThrough 2 = .ok (.putfield 167, 3) := by decide +kernel
theorem dX6_goesThrough_5 : decode cX6_goesThrough 5 = .ok (.aload_n 0, 1) := by decide +kernel
theorem dX6_goesThrough_6 : decode cX6_goesThrough 6 = .ok (.iconst 0, 1) := by decide +kernel
theorem dX6_goesThrough_7 : decode cX6_goesThrough 7 = .ok (.putfield 163, 3) := by decide +kernel
theorem dX6_goesThrough_10 : decode cX6_goesThrough 10 = .ok (.iconst 0, 1) := by decide +kernel
theorem dX6_goesThrough_11 : decode cX6_goesThrough 11 = .ok (.istore_n 2, 1) := by decide +kernel
theorem dX6_goesThrough_12 : decode cX6_goesThrough 12 = .ok (.iconst 1, 1) := by decide +kernel
theorem dX6_goesThrough_13 : decode cX6_goesThrough 13 = .ok (.istore_n 3, 1) := by decide +kernel
theorem dX6_goesThrough_14 : decode cX6_goesThrough 14 = .ok (.iload_n 3, 1) := by decide +kernel
theorem dX6_goesThrough_15 : decode cX6_goesThrough 15 = .ok (.ifCond .eq 94, 3) := by decide +kernel
theorem dX6_goesThrough_18 : decode cX6_goesThrough 18 = .ok (.aload_n 0, 1) := by decide +kernel
theorem dX6_goesThrough_19 : decode cX6_goesThrough 19 = .ok (.invokevirtual 194, 3) := by decide +kernel
theorem dX6_goesThrough_22 : decode cX6_goesThrough 22 = .ok (.aload_n 0, 1) := by decide +kernel
theorem dX6_goesThrough_23 : decode cX6_goesThrough 23 = .ok (.getfield 163, 3) := by decide +kernel
theorem dX6_goesThrough_26 : decode cX6_goesThrough 26 = .ok (.ifCond .ne 18, 3) := by decide +kernel
theorem dX6_goesThrough_29 : decode cX6_goesThrough 29 = .ok (.iload_n 1, 1) := by decide +kernel
theorem dX6_goesThrough_30 : decode cX6_goesThrough 30 = .ok (.ifCond .eq 10, 3) := by decide +kernel
theorem dX6_goesThrough_33 : decode cX6_goesThrough 33 = .ok (.aload_n 0, 1) := by decide +kernel
theorem dX6_goesThrough_34 : decode cX6_goesThrough 34 = .ok (.invokevirtual 197, 3) := by decide +kernel
theorem dX6_goesThrough_37 : decode cX6_goesThrough 37 = .ok (.ifCond .lt 7, 3) := by decide +kernel
theorem dX6_goesThrough_40 : decode cX6_goesThrough 40 = .ok (.iconst 1, 1) := by decide +kernel
theorem dX6_goesThrough_41 : decode cX6_goesThrough 41 = .ok (.goto 4, 3) := by decide +kernel
theorem dX6_goesThrough_44 : decode cX6_goesThrough 44 = .ok (.iconst 0, 1) := by decide +kernel
theorem dX6_goesThrough_45 : decode cX6_goesThrough 45 = .ok (.istore_n 3, 1) := by decide +kernel
theorem dX6_goesThrough_46 : decode cX6_goesThrough 46 = .ok (.iload_n 2, 1) := by decide +kernel
theorem dX6_goesThrough_47 : decode cX6_goesThrough 47 = .ok (.iload_n 3, 1) := by decide +kernel
theorem dX6_goesThrough_48 : decode cX6_goesThrough 48 = .ok (.ifCond .eq 7, 3) := by decide +kernel
theorem dX6_goesThrough_51 : decode cX6_goesThrough 51 = .ok (.iconst 1, 1) := by decide +kernel
theorem dX6_goesThrough_52 : decode cX6_goesThrough 52 = .ok (.goto 4, 3) := by decide +kernel
theorem dX6_goesThrough_55 : decode cX6_goesThrough 55 = .ok (.iconst 0, 1) := by decide +kernel
theorem dX6_goesThrough_56 : decode cX6_goesThrough 56 = .ok (.iadd, 1) := by decide +kernel
theorem dX6_goesThrough_57 : decode cX6_goesThrough 57 = .ok (.istore_n 2, 1) := by decide +kernel
theorem dX6_goesThrough_58 : decode cX6_goesThrough 58 = .ok (.iload_n 3, 1) := by decide +kernel
theorem dX6_goesThrough_59 : decode cX6_goesThrough 59 = .ok (.ifCond .eq 18, 3) := by decide +kernel
theorem dX6_goesThrough_62 : decode cX6_goesThrough 62 = .ok (.aload_n 0, 1) := by decide +kernel
theorem dX6_goesThrough_63 : decode cX6_goesThrough 63 = .ok (.getfield 167, 3) := by decide +kernel
theorem dX6_goesThrough_66 : decode cX6_goesThrough 66 = .ok (.aload_n 0, 1) := by decide +kernel
theorem dX6_goesThrough_67 : decode cX6_goesThrough 67 = .ok (.getfield 152, 3) := by decide +kernel
theorem dX6_goesThrough_70 : decode cX6_goesThrough 70 = .ok (.if_icmp .ge 7, 3) := by decide +kernel
theorem dX6_goesThrough_73 : decode cX6_goesThrough 73 = .ok (.iconst 1, 1) := by decide +kernel
theorem dX6_goesThrough_74 : decode cX6_goesThrough 74 = .ok (.goto 4, 3) := by decide +kernel
theorem dX6_goesThrough_77 : decode cX6_goesThrough 77 = .ok (.iconst 0, 1) := by decide +kernel
theorem dX6_goesThrough_78 : decode cX6_goesThrough 78 = .ok (.istore_n 3, 1) := by decide +kernel
theorem dX6_goesThrough_79 : decode cX6_goesThrough 79 = .ok (.iload_n 3, 1) := by decide +kernel
theorem dX6_goesThrough_80 : decode cX6_goesThrough 80 = .ok (.ifCond .eq (-66), 3) := by decide +kernel
theorem dX6_goesThrough_83 : decode cX6_goesThrough 83 = .ok (.aload_n 0, 1) := by decide +kernel
theorem dX6_goesThrough_84 : decode cX6_goesThrough 84 = .ok (.bipush 59, 2) := by decide +kernel
theorem dX6_goesThrough_86 : decode cX6_goesThrough 86 = .ok (.bipush 59, 2) := by decide +kernel
theorem dX6_goesThrough_88 : decode cX6_goesThrough 88 = .ok (.invokevirtual 173, 3) := by decide +kernel
theorem dX6_goesThrough_91 : decode cX6_goesThrough 91 = .ok (.istore 4, 2) := by decide +kernel
theorem dX6_goesThrough_93 : decode cX6_goesThrough 93 = .ok (.aload_n 0, 1) := by decide +kernel
theorem dX6_goesThrough_94 : decode cX6_goesThrough 94 = .ok (.getfield 163, 3) := by decide +kernel
theorem dX6_goesThrough_97 : decode cX6_goesThrough 97 = .ok (.ifCond .ne 7, 3) := by decide +kernel
theorem dX6_goesThrough_100 : decode cX6_goesThrough 100 = .ok (.iconst 1, 1) := by decide +kernel
theorem dX6_goesThrough_101 : decode cX6_goesThrough 101 = .ok (.goto 4, 3) := by decide +kernel
theorem dX6_goesThrough_104 : decode cX6_goesThrough 104 = .ok (.iconst 0, 1) := by decide +kernel
theorem dX6_goesThrough_105 : decode cX6_goesThrough 105 = .ok (.istore_n 3, 1) := by decide +kernel
theorem dX6_goesThrough_106 : decode cX6_goesThrough 106 = .ok (.goto (-92), 3) := by decide +kernel
theorem dX6_goesThrough_109 : decode cX6_goesThrough 109 = .ok (.iload_n 2, 1) := by decide +kernel
theorem dX6_goesThrough_110 : decode cX6_goesThrough 110 = .ok (.ireturn, 1) := by decide +kernel
theorem dX6_fault_0 : decode cX6_fault 0 = .ok (.aload_n 0, 1) := by decide +kernel
theorem dX6_fault_1 : decode cX6_fault 1 = .ok (.iconst 0, 1) := by decide +kernel
theorem dX6_fault_2 : decode cX6_fault 2 = .ok (.invokevirtual 200, 3) := by decide +kernel
theorem dX6_fault_5 : decode cX6_fault 5 = .ok (.istore_n 1, 1) := by decide +kernel
theorem dX6_fault_6 : decode cX6_fault 6 = .ok (.aload_n 0, 1) := by decide +kernel
theorem dX6_fault_7 : decode cX6_fault 7 = .ok (.getfield 163, 3) := by decide +kernel
theorem dX6_fault_10 : decode cX6_fault 10 = .ok (.ifCond .eq 10, 3) := by decide +kernel
theorem dX6_fault_13 : decode cX6_fault 13 = .ok (.aload_n 0, 1) := by decide +kernel
theorem dX6_fault_14 : decode cX6_fault 14 = .ok (.getfield 167, 3) := by decide +kernel
theorem dX6_fault_17 : decode cX6_fault 17 = .ok (.goto 5, 3) := by decide +kernel
theorem dX6_fault_20 : decode cX6_fault 20 = .ok (.bipush (-6), 2) := by decide +kernel
theorem dX6_fault_22 : decode cX6_fault 22 = .ok (.ireturn, 1) := by decide +kernel
theorem dX6_carryOut_0 : decode cX6_carryOut 0 = .ok (.aload_n 0, 1) := by decide +kernel
theorem dX6_carryOut_1 : decode cX6_carryOut 1 = .ok (.invokevirtual 203, 3) := by decide +kernel
theorem dX6_carryOut_4 : decode cX6_carryOut 4 = .ok (.bipush (-6), 2) := by decide +kernel
theorem dX6_carryOut_6 : decode cX6_carryOut 6 = .ok (.if_icmp .eq 6, 3) := by decide +kernel
theorem dX6_carryOut_9 : decode cX6_carryOut 9 = .ok (.bipush (-3), 2) := by decide +kernel
theorem dX6_carryOut_11 : decode cX6_carryOut 11 = .ok (.ireturn, 1) := by decide +kernel
theorem dX6_carryOut_12 : decode cX6_carryOut 12 = .ok (.aload_n 0, 1) := by decide +kernel
theorem dX6_carryOut_13 : decode cX6_carryOut 13 = .ok (.invokevirtual 102, 3) := by decide +kernel
theorem dX6_carryOut_16 : decode cX6_carryOut 16 = .ok (.aload_n 0, 1) := by decide +kernel
theorem dX6_carryOut_17 : decode cX6_carryOut 17 = .ok (.iconst 1, 1) := by decide +kernel
theorem dX6_carryOut_18 : decode cX6_carryOut 18 = .ok (.invokevirtual 200, 3) := by decide +kernel
theorem dX6_carryOut_21 : decode cX6_carryOut 21 = .ok (.istore_n 1, 1) := by decide +kernel
theorem dX6_carryOut_22 : decode cX6_carryOut 22 = .ok (.aload_n 0, 1) := by decide +kernel
theorem dX6_carryOut_23 : decode cX6_carryOut 23 = .ok (.invokevirtual 55, 3) := by decide +kernel
theorem dX6_carryOut_26 : decode cX6_carryOut 26 = .ok (.aload_n 0, 1) := by decide +kernel
theorem dX6_carryOut_27 : decode cX6_carryOut 27 = .ok (.iconst 0, 1) := by decide +kernel
theorem dX6_carryOut_28 : decode cX6_carryOut 28 = .ok (.putfield 152, 3) := by decide +kernel
theorem dX6_carryOut_31 : decode cX6_carryOut 31 = .ok (.iload_n 1, 1) := by decide +kernel
theorem dX6_carryOut_32 : decode cX6_carryOut 32 = .ok (.ireturn, 1) := by decide +kernel
theorem dX6_undo_0 : decode cX6_undo 0 = .ok (.aload_n 0, 1) := by decide +kernel
theorem dX6_undo_1 : decode cX6_undo 1 = .ok (.getfield 51, 3) := by decide +kernel
theorem dX6_undo_4 : decode cX6_undo 4 = .ok (.ifCond .ne 6, 3) := by decide +kernel
theorem dX6_undo_7 : decode cX6_undo 7 = .ok (.bipush (-5), 2) := by decide +kernel
theorem dX6_undo_9 : decode cX6_undo 9 = .ok (.ireturn, 1) := by decide +kernel
theorem dX6_undo_10 : decode cX6_undo 10 = .ok (.aload_n 0, 1) := by decide +kernel
theorem dX6_undo_11 : decode cX6_undo 11 = .ok (.dup, 1) := by decide +kernel
theorem dX6_undo_12 : decode cX6_undo 12 = .ok (.getfield 51, 3) := by decide +kernel
theorem dX6_undo_15 : decode cX6_undo 15 = .ok (.iconst 1, 1) := by decide +kernel
theorem dX6_undo_16 : decode cX6_undo 16 = .ok (.isub, 1) := by decide +kernel
theorem dX6_undo_17 : decode cX6_undo 17 = .ok (.putfield 51, 3) := by decide +kernel
theorem dX6_undo_20 : decode cX6_undo 20 = .ok (.iconst 0, 1) := by decide +kernel
theorem dX6_undo_21 : decode cX6_undo 21 = .ok (.istore_n 1, 1) := by decide +kernel
theorem dX6_undo_22 : decode cX6_undo 22 = .ok (.iload_n 1, 1) := by decide +kernel
theorem dX6_undo_23 : decode cX6_undo 23 = .ok (.sipush 302, 3) := by decide +kernel
theorem dX6_undo_26 : decode cX6_undo 26 = .ok (.if_icmp .ge 30, 3) := by decide +kernel
theorem dX6_undo_29 : decode cX6_undo 29 = .ok (.aload_n 0, 1) := by decide +kernel
theorem dX6_undo_30 : decode cX6_undo 30 = .ok (.getfield 7, 3) := by decide +kernel
theorem dX6_undo_33 : decode cX6_undo 33 = .ok (.iload_n 1, 1) := by decide +kernel
theorem dX6_undo_34 : decode cX6_undo 34 = .ok (.aload_n 0, 1) := by decide +kernel
theorem dX6_undo_35 : decode cX6_undo 35 = .ok (.getfield 16, 3) := by decide +kernel
theorem dX6_undo_38 : decode cX6_undo 38 = .ok (.sipush 302, 3) := by decide +kernel
theorem dX6_undo_41 : decode cX6_undo 41 = .ok (.aload_n 0, 1) := by decide +kernel
theorem dX6_undo_42 : decode cX6_undo 42 = .ok (.getfield 51, 3) := by decide +kernel
theorem dX6_undo_45 : decode cX6_undo 45 = .ok (.imul, 1) := by decide +kernel
theorem dX6_undo_46 : decode cX6_undo 46 = .ok (.iload_n 1, 1) := by decide +kernel
theorem dX6_undo_47 : decode cX6_undo 47 = .ok (.iadd, 1) := by decide +kernel
theorem dX6_undo_48 : decode cX6_undo 48 = .ok (.iaload, 1) := by decide +kernel
theorem dX6_undo_49 : decode cX6_undo 49 = .ok (.iastore, 1) := by decide +kernel
theorem dX6_undo_50 : decode cX6_undo 50 = .ok (.iinc 1 1, 3) := by decide +kernel
theorem dX6_undo_53 : decode cX6_undo 53 = .ok (.goto (-31), 3) := by decide +kernel
theorem dX6_undo_56 : decode cX6_undo 56 = .ok (.aload_n 0, 1) := by decide +kernel
theorem dX6_undo_57 : decode cX6_undo 57 = .ok (.getfield 51, 3) := by decide +kernel
theorem dX6_undo_60 : decode cX6_undo 60 = .ok (.ireturn, 1) := by decide +kernel
theorem dX6_save_0 : decode cX6_save 0 = .ok (.iload_n 1, 1) := by decide +kernel
theorem dX6_save_1 : decode cX6_save 1 = .ok (.iconst 0, 1) := by decide +kernel
theorem dX6_save_2 : decode cX6_save 2 = .ok (.iconst 1, 1) := by decide +kernel
theorem dX6_save_3 : decode cX6_save 3 = .ok (.invokestatic 25, 3) := by decide +kernel
theorem dX6_save_6 : decode cX6_save 6 = .ok (.ifCond .ne 6, 3) := by decide +kernel
theorem dX6_save_9 : decode cX6_save 9 = .ok (.bipush (-2), 2) := by decide +kernel
theorem dX6_save_11 : decode cX6_save 11 = .ok (.ireturn, 1) := by decide +kernel
theorem dX6_save_12 : decode cX6_save 12 = .ok (.iconst 0, 1) := by decide +kernel
theorem dX6_save_13 : decode cX6_save 13 = .ok (.istore_n 2, 1) := by decide +kernel
theorem dX6_save_14 : decode cX6_save 14 = .ok (.iload_n 2, 1) := by decide +kernel
theorem dX6_save_15 : decode cX6_save 15 = .ok (.sipush 302, 3) := by decide +kernel
theorem dX6_save_18 : decode cX6_save 18 = .ok (.if_icmp .ge 27, 3) := by decide +kernel
theorem dX6_save_21 : decode cX6_save 21 = .ok (.aload_n 0, 1) := by decide +kernel
theorem dX6_save_22 : decode cX6_save 22 = .ok (.getfield 19, 3) := by decide +kernel
theorem dX6_save_25 : decode cX6_save 25 = .ok (.sipush 302, 3) := by decide +kernel
theorem dX6_save_28 : decode cX6_save 28 = .ok (.iload_n 1, 1) := by decide +kernel
theorem dX6_save_29 : decode cX6_save 29 = .ok (.imul, 1) := by decide +kernel
theorem dX6_save_30 : decode cX6_save 30 = .ok (.iload_n 2, 1) := by decide +kernel
theorem dX6_save_31 : decode cX6_save 31 = .ok (.iadd, 1) := by decide +kernel
theorem dX6_save_32 : decode cX6_save 32 = .ok (.aload_n 0, 1) := by decide +kernel
theorem dX6_save_33 : decode cX6_save 33 = .ok (.getfield 7, 3) := by decide +kernel
theorem dX6_save_36 : decode cX6_save 36 = .ok (.iload_n 2, 1) := by decide +kernel
theorem dX6_save_37 : decode cX6_save 37 = .ok (.iaload, 1) := by decide +kernel
theorem dX6_save_38 : decode cX6_save 38 = .ok (.iastore, 1) := by decide +kernel
theorem dX6_save_39 : decode cX6_save 39 = .ok (.iinc 2 1, 3) := by decide +kernel
theorem dX6_save_42 : decode cX6_save 42 = .ok (.goto (-28), 3) := by decide +kernel
theorem dX6_save_45 : decode cX6_save 45 = .ok (.aload_n 0, 1) := by decide +kernel
theorem dX6_save_46 : decode cX6_save 46 = .ok (.dup, 1) := by decide +kernel
theorem dX6_save_47 : decode cX6_save 47 = .ok (.getfield 206, 3) := by decide +kernel
theorem dX6_save_50 : decode cX6_save 50 = .ok (.iconst 1, 1) := by decide +kernel
theorem dX6_save_51 : decode cX6_save 51 = .ok (.iload_n 1, 1) := by decide +kernel
theorem dX6_save_52 : decode cX6_save 52 = .ok (.ishl, 1) := by decide +kernel
theorem dX6_save_53 : decode cX6_save 53 = .ok (.ior, 1) := by decide +kernel
theorem dX6_save_54 : decode cX6_save 54 = .ok (.putfield 206, 3) := by decide +kernel
theorem dX6_save_57 : decode cX6_save 57 = .ok (.aload_n 0, 1) := by decide +kernel
theorem dX6_save_58 : decode cX6_save 58 = .ok (.getfield 7, 3) := by decide +kernel
theorem dX6_save_61 : decode cX6_save 61 = .ok (.iconst 5, 1) := by decide +kernel
theorem dX6_save_62 : decode cX6_save 62 = .ok (.iaload, 1) := by decide +kernel
theorem dX6_save_63 : decode cX6_save 63 = .ok (.ireturn, 1) := by decide +kernel
theorem dX6_restore_0 : decode cX6_restore 0 = .ok (.iload_n 1, 1) := by decide +kernel
theorem dX6_restore_1 : decode cX6_restore 1 = .ok (.iconst 0, 1) := by decide +kernel
theorem dX6_restore_2 : decode cX6_restore 2 = .ok (.iconst 1, 1) := by decide +kernel
theorem dX6_restore_3 : decode cX6_restore 3 = .ok (.invokestatic 25, 3) := by decide +kernel
theorem dX6_restore_6 : decode cX6_restore 6 = .ok (.ifCond .ne 6, 3) := by decide +kernel
theorem dX6_restore_9 : decode cX6_restore 9 = .ok (.bipush (-2), 2) := by decide +kernel
theorem dX6_restore_11 : decode cX6_restore 11 = .ok (.ireturn, 1) := by decide +kernel
theorem dX6_restore_12 : decode cX6_restore 12 = .ok (.aload_n 0, 1) := by decide +kernel
theorem dX6_restore_13 : decode cX6_restore 13 = .ok (.getfield 206, 3) := by decide +kernel
theorem dX6_restore_16 : decode cX6_restore 16 = .ok (.iload_n 1, 1) := by decide +kernel
theorem dX6_restore_17 : decode cX6_restore 17 = .ok (.ishr, 1) := by decide +kernel
theorem dX6_restore_18 : decode cX6_restore 18 = .ok (.iconst 1, 1) := by decide +kernel
theorem dX6_restore_19 : decode cX6_restore 19 = .ok (.iand, 1) := by decide +kernel
theorem dX6_restore_20 : decode cX6_restore 20 = .ok (.ifCond .ne 6, 3) := by decide +kernel
theorem dX6_restore_23 : decode cX6_restore 23 = .ok (.bipush (-5), 2) := by decide +kernel
theorem dX6_restore_25 : decode cX6_restore 25 = .ok (.ireturn, 1) := by decide +kernel
theorem dX6_restore_26 : decode cX6_restore 26 = .ok (.aload_n 0, 1) := by decide +kernel
theorem dX6_restore_27 : decode cX6_restore 27 = .ok (.invokevirtual 102, 3) := by decide +kernel
theorem dX6_restore_30 : decode cX6_restore 30 = .ok (.aload_n 0, 1) := by decide +kernel
theorem dX6_restore_31 : decode cX6_restore 31 = .ok (.invokevirtual 55, 3) := by decide +kernel
theorem dX6_restore_34 : decode cX6_restore 34 = .ok (.iconst 0, 1) := by decide +kernel
theorem dX6_restore_35 : decode cX6_restore 35 = .ok (.istore_n 2, 1) := by decide +kernel
theorem dX6_restore_36 : decode cX6_restore 36 = .ok (.iload_n 2, 1) := by decide +kernel
theorem dX6_restore_37 : decode cX6_restore 37 = .ok (.sipush 302, 3) := by decide +kernel
theorem dX6_restore_40 : decode cX6_restore 40 = .ok (.if_icmp .ge 27, 3) := by decide +kernel
theorem dX6_restore_43 : decode cX6_restore 43 = .ok (.aload_n 0, 1) := by decide +kernel
theorem dX6_restore_44 : decode cX6_restore 44 = .ok (.getfield 7, 3) := by decide +kernel
theorem dX6_restore_47 : decode cX6_restore 47 = .ok (.iload_n 2, 1) := by decide +kernel
theorem dX6_restore_48 : decode cX6_restore 48 = .ok (.aload_n 0, 1) := by decide +kernel
theorem dX6_restore_49 : decode cX6_restore 49 = .ok (.getfield 19, 3) := by decide +kernel
theorem dX6_restore_52 : decode cX6_restore 52 = .ok (.sipush 302, 3) := by decide +kernel
theorem dX6_restore_55 : decode cX6_restore 55 = .ok (.iload_n 1, 1) := by decide +kernel
theorem dX6_restore_56 : decode cX6_restore 56 = .ok (.imul, 1) := by decide +kernel
theorem dX6_restore_57 : decode cX6_restore 57 = .ok (.iload_n 2, 1) := by decide +kernel
theorem dX6_restore_58 : decode cX6_restore 58 = .ok (.iadd, 1) := by decide +kernel
theorem dX6_restore_59 : decode cX6_restore 59 = .ok (.iaload, 1) := by decide +kernel
theorem dX6_restore_60 : decode cX6_restore 60 = .ok (.iastore, 1) := by decide +kernel
theorem dX6_restore_61 : decode cX6_restore 61 = .ok (.iinc 2 1, 3) := by decide +kernel
theorem dX6_restore_64 : decode cX6_restore 64 = .ok (.goto (-28), 3) := by decide +kernel
theorem dX6_restore_67 : decode cX6_restore 67 = .ok (.aload_n 0, 1) := by decide +kernel
theorem dX6_restore_68 : decode cX6_restore 68 = .ok (.getfield 7, 3) := by decide +kernel
theorem dX6_restore_71 : decode cX6_restore 71 = .ok (.iconst 5, 1) := by decide +kernel
theorem dX6_restore_72 : decode cX6_restore 72 = .ok (.iaload, 1) := by decide +kernel
theorem dX6_restore_73 : decode cX6_restore 73 = .ok (.ireturn, 1) := by decide +kernel
