theorem dX0_init_0 : decode cX0_init 0 = .ok (.aload_n 0, 1) := by decide +kernel
theorem dX0_init_1 : decode cX0_init 1 = .ok (.invokespecial 3, 3) := by decide +kernel
theorem dX0_init_4 : decode cX0_init 4 = .ok (.aload_n 0, 1) := by decide +kernel
theorem dX0_init_5 : decode cX0_init 5 = .ok (.getstatic 9, 3) := by decide +kernel
theorem dX0_init_8 : decode cX0_init 8 = .ok (.invokevirtual 13, 3) := by decide +kernel
theorem dX0_init_11 : decode cX0_init 11 = .ok (.checkcast 14, 3) := by decide +kernel
theorem dX0_init_14 : decode cX0_init 14 = .ok (.putfield 18, 3) := by decide +kernel
theorem dX0_init_17 : decode cX0_init 17 = .ok (.aload_n 0, 1) := by decide +kernel
theorem dX0_init_18 : decode cX0_init 18 = .ok (.bipush 8, 2) := by decide +kernel
theorem dX0_init_20 : decode cX0_init 20 = .ok (.anewarray 23, 3) := by decide +kernel
theorem dX0_init_23 : decode cX0_init 23 = .ok (.putfield 25, 3) := by decide +kernel
theorem dX0_init_26 : decode cX0_init 26 = .ok (.iconst 0, 1) := by decide +kernel
theorem dX0_init_27 : decode cX0_init 27 = .ok (.istore_n 1, 1) := by decide +kernel
theorem dX0_init_28 : decode cX0_init 28 = .ok (.iload_n 1, 1) := by decide +kernel
theorem dX0_init_29 : decode cX0_init 29 = .ok (.bipush 8, 2) := by decide +kernel
theorem dX0_init_31 : decode cX0_init 31 = .ok (.if_icmp .ge 22, 3) := by decide +kernel
theorem dX0_init_34 : decode cX0_init 34 = .ok (.aload_n 0, 1) := by decide +kernel
theorem dX0_init_35 : decode cX0_init 35 = .ok (.getfield 25, 3) := by decide +kernel
theorem dX0_init_38 : decode cX0_init 38 = .ok (.iload_n 1, 1) := by decide +kernel
theorem dX0_init_39 : decode cX0_init 39 = .ok (.new 23, 3) := by decide +kernel
theorem dX0_init_42 : decode cX0_init 42 = .ok (.dup, 1) := by decide +kernel
theorem dX0_init_43 : decode cX0_init 43 = .ok (.invokespecial 29, 3) := by decide +kernel
theorem dX0_init_46 : decode cX0_init 46 = .ok (.aastore, 1) := by decide +kernel
theorem dX0_init_47 : decode cX0_init 47 = .ok (.iinc 1 1, 3) := by decide +kernel
theorem dX0_init_50 : decode cX0_init 50 = .ok (.goto (-22), 3) := by decide +kernel
theorem dX0_init_53 : decode cX0_init 53 = .ok (.aload_n 0, 1) := by decide +kernel
theorem dX0_init_54 : decode cX0_init 54 = .ok (.new 30, 3) := by decide +kernel
theorem dX0_init_57 : decode cX0_init 57 = .ok (.dup, 1) := by decide +kernel
theorem dX0_init_58 : decode cX0_init 58 = .ok (.invokespecial 32, 3) := by decide +kernel
theorem dX0_init_61 : decode cX0_init 61 = .ok (.putfield 33, 3) := by decide +kernel
theorem dX0_init_64 : decode cX0_init 64 = .ok (.return_, 1) := by decide +kernel
theorem dX0_copyFrom_0 : decode cX0_copyFrom 0 = .ok (.aload_n 1, 1) := by decide +kernel
theorem dX0_copyFrom_1 : decode cX0_copyFrom 1 = .ok (.getfield 18, 3) := by decide +kernel
theorem dX0_copyFrom_4 : decode cX0_copyFrom 4 = .ok (.iconst 0, 1) := by decide +kernel
theorem dX0_copyFrom_5 : decode cX0_copyFrom 5 = .ok (.aload_n 0, 1) := by decide +kernel
theorem dX0_copyFrom_6 : decode cX0_copyFrom 6 = .ok (.getfield 18, 3) := by decide +kernel
theorem dX0_copyFrom_9 : decode cX0_copyFrom 9 = .ok (.iconst 0, 1) := by decide +kernel
theorem dX0_copyFrom_10 : decode cX0_copyFrom 10 = .ok (.iconst 5, 1) := by decide +kernel
theorem dX0_copyFrom_11 : decode cX0_copyFrom 11 = .ok (.invokestatic 37, 3) := by decide +kernel
theorem dX0_copyFrom_14 : decode cX0_copyFrom 14 = .ok (.aload_n 0, 1) := by decide +kernel
theorem dX0_copyFrom_15 : decode cX0_copyFrom 15 = .ok (.aload_n 1, 1) := by decide +kernel
theorem dX0_copyFrom_16 : decode cX0_copyFrom 16 = .ok (.getfield 43, 3) := by decide +kernel
theorem dX0_copyFrom_19 : decode cX0_copyFrom 19 = .ok (.putfield 43, 3) := by decide +kernel
theorem dX0_copyFrom_22 : decode cX0_copyFrom 22 = .ok (.iconst 0, 1) := by decide +kernel
theorem dX0_copyFrom_23 : decode cX0_copyFrom 23 = .ok (.istore_n 2, 1) := by decide +kernel
theorem dX0_copyFrom_24 : decode cX0_copyFrom 24 = .ok (.iload_n 2, 1) := by decide +kernel
theorem dX0_copyFrom_25 : decode cX0_copyFrom 25 = .ok (.aload_n 0, 1) := by decide +kernel
theorem dX0_copyFrom_26 : decode cX0_copyFrom 26 = .ok (.getfield 43, 3) := by decide +kernel
theorem dX0_copyFrom_29 : decode cX0_copyFrom 29 = .ok (.if_icmp .ge 24, 3) := by decide +kernel
theorem dX0_copyFrom_32 : decode cX0_copyFrom 32 = .ok (.aload_n 0, 1) := by decide +kernel
theorem dX0_copyFrom_33 : decode cX0_copyFrom 33 = .ok (.getfield 25, 3) := by decide +kernel
theorem dX0_copyFrom_36 : decode cX0_copyFrom 36 = .ok (.iload_n 2, 1) := by decide +kernel
theorem dX0_copyFrom_37 : decode cX0_copyFrom 37 = .ok (.aaload, 1) := by decide +kernel
theorem dX0_copyFrom_38 : decode cX0_copyFrom 38 = .ok (.aload_n 1, 1) := by decide +kernel
theorem dX0_copyFrom_39 : decode cX0_copyFrom 39 = .ok (.getfield 25, 3) := by decide +kernel
theorem dX0_copyFrom_42 : decode cX0_copyFrom 42 = .ok (.iload_n 2, 1) := by decide +kernel
theorem dX0_copyFrom_43 : decode cX0_copyFrom 43 = .ok (.aaload, 1) := by decide +kernel
theorem dX0_copyFrom_44 : decode cX0_copyFrom 44 = .ok (.invokevirtual 47, 3) := by decide +kernel
theorem dX0_copyFrom_47 : decode cX0_copyFrom 47 = .ok (.iinc 2 1, 3) := by decide +kernel
theorem dX0_copyFrom_50 : decode cX0_copyFrom 50 = .ok (.goto (-26), 3) := by decide +kernel
theorem dX0_copyFrom_53 : decode cX0_copyFrom 53 = .ok (.aload_n 0, 1) := by decide +kernel
theorem dX0_copyFrom_54 : decode cX0_copyFrom 54 = .ok (.getfield 33, 3) := by decide +kernel
theorem dX0_copyFrom_57 : decode cX0_copyFrom 57 = .ok (.aload_n 1, 1) := by decide +kernel
theorem dX0_copyFrom_58 : decode cX0_copyFrom 58 = .ok (.getfield 33, 3) := by decide +kernel
theorem dX0_copyFrom_61 : decode cX0_copyFrom 61 = .ok (.invokevirtual 51, 3) := by decide +kernel
theorem dX0_copyFrom_64 : decode cX0_copyFrom 64 = .ok (.aload_n 0, 1) := by decide +kernel
theorem dX0_copyFrom_65 : decode cX0_copyFrom 65 = .ok (.aload_n 1, 1) := by decide +kernel
theorem dX0_copyFrom_66 : decode cX0_copyFrom 66 = .ok (.getfield 54, 3) := by decide +kernel
theorem dX0_copyFrom_69 : decode cX0_copyFrom 69 = .ok (.putfield 54, 3) := by decide +kernel
theorem dX0_copyFrom_72 : decode cX0_copyFrom 72 = .ok (.aload_n 0, 1) := by decide +kernel
theorem dX0_copyFrom_73 : decode cX0_copyFrom 73 = .ok (.aload_n 1, 1) := by decide +kernel
theorem dX0_copyFrom_74 : decode cX0_copyFrom 74 = .ok (.getfield 57, 3) := by decide +kernel
theorem dX0_copyFrom_77 : decode cX0_copyFrom 77 = .ok (.putfield 57, 3) := by decide +kernel
theorem dX0_copyFrom_80 : decode cX0_copyFrom 80 = .ok (.return_, 1) := by decide +kernel
theorem dX0_boardAt_0 : decode cX0_boardAt 0 = .ok (.iload_n 1, 1) := by decide +kernel
theorem dX0_boardAt_1 : decode cX0_boardAt 1 = .ok (.ifCond .lt 20, 3) := by decide +kernel
theorem dX0_boardAt_4 : decode cX0_boardAt 4 = .ok (.iload_n 1, 1) := by decide +kernel
theorem dX0_boardAt_5 : decode cX0_boardAt 5 = .ok (.aload_n 0, 1) := by decide +kernel
theorem dX0_boardAt_6 : decode cX0_boardAt 6 = .ok (.getfield 43, 3) := by decide +kernel
theorem dX0_boardAt_9 : decode cX0_boardAt 9 = .ok (.if_icmp .ge 12, 3) := by decide +kernel
theorem dX0_boardAt_12 : decode cX0_boardAt 12 = .ok (.aload_n 0, 1) := by decide +kernel
theorem dX0_boardAt_13 : decode cX0_boardAt 13 = .ok (.getfield 25, 3) := by decide +kernel
theorem dX0_boardAt_16 : decode cX0_boardAt 16 = .ok (.iload_n 1, 1) := by decide +kernel
theorem dX0_boardAt_17 : decode cX0_boardAt 17 = .ok (.aaload, 1) := by decide +kernel
theorem dX0_boardAt_18 : decode cX0_boardAt 18 = .ok (.goto 4, 3) := by decide +kernel
theorem dX0_boardAt_21 : decode cX0_boardAt 21 = .ok (.aconst_null, 1) := by decide +kernel
theorem dX0_boardAt_22 : decode cX0_boardAt 22 = .ok (.areturn, 1) := by decide +kernel
theorem dX0_boardIn_0 : decode cX0_boardIn 0 = .ok (.iconst 0, 1) := by decide +kernel
theorem dX0_boardIn_1 : decode cX0_boardIn 1 = .ok (.istore_n 2, 1) := by decide +kernel
theorem dX0_boardIn_2 : decode cX0_boardIn 2 = .ok (.iload_n 2, 1) := by decide +kernel
theorem dX0_boardIn_3 : decode cX0_boardIn 3 = .ok (.aload_n 0, 1) := by decide +kernel
theorem dX0_boardIn_4 : decode cX0_boardIn 4 = .ok (.getfield 43, 3) := by decide +kernel
theorem dX0_boardIn_7 : decode cX0_boardIn 7 = .ok (.if_icmp .ge 24, 3) := by decide +kernel
theorem dX0_boardIn_10 : decode cX0_boardIn 10 = .ok (.aload_n 0, 1) := by decide +kernel
theorem dX0_boardIn_11 : decode cX0_boardIn 11 = .ok (.getfield 25, 3) := by decide +kernel
theorem dX0_boardIn_14 : decode cX0_boardIn 14 = .ok (.iload_n 2, 1) := by decide +kernel
theorem dX0_boardIn_15 : decode cX0_boardIn 15 = .ok (.aaload, 1) := by decide +kernel
theorem dX0_boardIn_16 : decode cX0_boardIn 16 = .ok (.getfield 60, 3) := by decide +kernel
theorem dX0_boardIn_19 : decode cX0_boardIn 19 = .ok (.iload_n 1, 1) := by decide +kernel
theorem dX0_boardIn_20 : decode cX0_boardIn 20 = .ok (.if_icmp .ne 5, 3) := by decide +kernel
theorem dX0_boardIn_23 : decode cX0_boardIn 23 = .ok (.iload_n 2, 1) := by decide +kernel
theorem dX0_boardIn_24 : decode cX0_boardIn 24 = .ok (.ireturn, 1) := by decide +kernel
theorem dX0_boardIn_25 : decode cX0_boardIn 25 = .ok (.iinc 2 1, 3) := by decide +kernel
theorem dX0_boardIn_28 : decode cX0_boardIn 28 = .ok (.goto (-26), 3) := by decide +kernel
theorem dX0_boardIn_31 : decode cX0_boardIn 31 = .ok (.bipush (-6), 2) := by decide +kernel
theorem dX0_boardIn_33 : decode cX0_boardIn 33 = .ok (.ireturn, 1) := by decide +kernel
theorem dX0_boardSet_0 : decode cX0_boardSet 0 = .ok (.iconst 1, 1) := by decide +kernel
theorem dX0_boardSet_1 : decode cX0_boardSet 1 = .ok (.aload_n 0, 1) := by decide +kernel
theorem dX0_boardSet_2 : decode cX0_boardSet 2 = .ok (.getfield 43, 3) := by decide +kernel
theorem dX0_boardSet_5 : decode cX0_boardSet 5 = .ok (.ishl, 1) := by decide +kernel
theorem dX0_boardSet_6 : decode cX0_boardSet 6 = .ok (.iconst 1, 1) := by decide +kernel
theorem dX0_boardSet_7 : decode cX0_boardSet 7 = .ok (.isub, 1) := by decide +kernel
theorem dX0_boardSet_8 : decode cX0_boardSet 8 = .ok (.ireturn, 1) := by decide +kernel
theorem dX0_pluggedSet_0 : decode cX0_pluggedSet 0 = .ok (.iconst 0, 1) := by decide +kernel
theorem dX0_pluggedSet_1 : decode cX0_pluggedSet 1 = .ok (.istore_n 1, 1) := by decide +kernel
theorem dX0_pluggedSet_2 : decode cX0_pluggedSet 2 = .ok (.iconst 0, 1) := by decide +kernel
theorem dX0_pluggedSet_3 : decode cX0_pluggedSet 3 = .ok (.istore_n 2, 1) := by decide +kernel
theorem dX0_pluggedSet_4 : decode cX0_pluggedSet 4 = .ok (.iload_n 2, 1) := by decide +kernel
theorem dX0_pluggedSet_5 : decode cX0_pluggedSet 5 = .ok (.aload_n 0, 1) := by decide +kernel
theorem dX0_pluggedSet_6 : decode cX0_pluggedSet 6 = .ok (.getfield 43, 3) := by decide +kernel
theorem dX0_pluggedSet_9 : decode cX0_pluggedSet 9 = .ok (.if_icmp .ge 29, 3) := by decide +kernel
theorem dX0_pluggedSet_12 : decode cX0_pluggedSet 12 = .ok (.aload_n 0, 1) := by decide +kernel
theorem dX0_pluggedSet_13 : decode cX0_pluggedSet 13 = .ok (.getfield 25, 3) := by decide +kernel
theorem dX0_pluggedSet_16 : decode cX0_pluggedSet 16 = .ok (.iload_n 2, 1) := by decide +kernel
theorem dX0_pluggedSet_17 : decode cX0_pluggedSet 17 = .ok (.aaload, 1) := by decide +kernel
theorem dX0_pluggedSet_18 : decode cX0_pluggedSet 18 = .ok (.getfield 60, 3) := by decide +kernel
theorem dX0_pluggedSet_21 : decode cX0_pluggedSet 21 = .ok (.bipush (-6), 2) := by decide +kernel
theorem dX0_pluggedSet_23 : decode cX0_pluggedSet 23 = .ok (.if_icmp .eq 9, 3) := by decide +kernel
theorem dX0_pluggedSet_26 : decode cX0_pluggedSet 26 = .ok (.iload_n 1, 1) := by decide +kernel
theorem dX0_pluggedSet_27 : decode cX0_pluggedSet 27 = .ok (.iconst 1, 1) := by decide +kernel
theorem dX0_pluggedSet_28 : decode cX0_pluggedSet 28 = .ok (.iload_n 2, 1) := by decide +kernel
theorem dX0_pluggedSet_29 : decode cX0_pluggedSet 29 = .ok (.ishl, 1) := by decide +kernel
theorem dX0_pluggedSet_30 : decode cX0_pluggedSet 30 = .ok (.ior, 1) := by decide +kernel
theorem dX0_pluggedSet_31 : decode cX0_pluggedSet 31 = .ok (.istore_n 1, 1) := by decide +kernel
theorem dX0_pluggedSet_32 : decode cX0_pluggedSet 32 = .ok (.iinc 2 1, 3) := by decide +kernel
theorem dX0_pluggedSet_35 : decode cX0_pluggedSet 35 = .ok (.goto (-31), 3) := by decide +kernel
theorem dX0_pluggedSet_38 : decode cX0_pluggedSet 38 = .ok (.iload_n 1, 1) := by decide +kernel
theorem dX0_pluggedSet_39 : decode cX0_pluggedSet 39 = .ok (.ireturn, 1) := by decide +kernel
theorem dX0_knownSet_0 : decode cX0_knownSet 0 = .ok (.iconst 0, 1) := by decide +kernel
theorem dX0_knownSet_1 : decode cX0_knownSet 1 = .ok (.istore_n 1, 1) := by decide +kernel
theorem dX0_knownSet_2 : decode cX0_knownSet 2 = .ok (.iconst 0, 1) := by decide +kernel
theorem dX0_knownSet_3 : decode cX0_knownSet 3 = .ok (.istore_n 2, 1) := by decide +kernel
theorem dX0_knownSet_4 : decode cX0_knownSet 4 = .ok (.iload_n 2, 1) := by decide +kernel
theorem dX0_knownSet_5 : decode cX0_knownSet 5 = .ok (.aload_n 0, 1) := by decide +kernel
theorem dX0_knownSet_6 : decode cX0_knownSet 6 = .ok (.getfield 43, 3) := by decide +kernel
theorem dX0_knownSet_9 : decode cX0_knownSet 9 = .ok (.if_icmp .ge 27, 3) := by decide +kernel
theorem dX0_knownSet_12 : decode cX0_knownSet 12 = .ok (.aload_n 0, 1) := by decide +kernel
theorem dX0_knownSet_13 : decode cX0_knownSet 13 = .ok (.getfield 25, 3) := by decide +kernel
theorem dX0_knownSet_16 : decode cX0_knownSet 16 = .ok (.iload_n 2, 1) := by decide +kernel
theorem dX0_knownSet_17 : decode cX0_knownSet 17 = .ok (.aaload, 1) := by decide +kernel
theorem dX0_knownSet_18 : decode cX0_knownSet 18 = .ok (.getfield 63, 3) := by decide +kernel
theorem dX0_knownSet_21 : decode cX0_knownSet 21 = .ok (.ifCond .eq 9, 3) := by decide +kernel
theorem dX0_knownSet_24 : decode cX0_knownSet 24 = .ok (.iload_n 1, 1) := by decide +kernel
theorem dX0_knownSet_25 : decode cX0_knownSet 25 = .ok (.iconst 1, 1) := by decide +kernel
theorem dX0_knownSet_26 : decode cX0_knownSet 26 = .ok (.iload_n 2, 1) := by decide +kernel
theorem dX0_knownSet_27 : decode cX0_knownSet 27 = .ok (.ishl, 1) := by decide +kernel
theorem dX0_knownSet_28 : decode cX0_knownSet 28 = .ok (.ior, 1) := by decide +kernel
theorem dX0_knownSet_29 : decode cX0_knownSet 29 = .ok (.istore_n 1, 1) := by decide +kernel
theorem dX0_knownSet_30 : decode cX0_knownSet 30 = .ok (.iinc 2 1, 3) := by decide +kernel
theorem dX0_knownSet_33 : decode cX0_knownSet 33 = .ok (.goto (-29), 3) := by decide +kernel
theorem dX0_knownSet_36 : decode cX0_knownSet 36 = .ok (.iload_n 1, 1) := by decide +kernel
theorem dX0_knownSet_37 : decode cX0_knownSet 37 = .ok (.ireturn, 1) := by decide +kernel
theorem dX0_knownWithCode_0 : decode cX0_knownWithCode 0 = .ok (.iconst 0, 1) := by decide +kernel
theorem dX0_knownWithCode_1 : decode cX0_knownWithCode 1 = .ok (.istore_n 2, 1) := by decide +kernel
theorem dX0_knownWithCode_2 : decode cX0_knownWithCode 2 = .ok (.iload_n 2, 1) := by decide +kernel
theorem dX0_knownWithCode_3 : decode cX0_knownWithCode 3 = .ok (.aload_n 0, 1) := by decide +kernel
theorem dX0_knownWithCode_4 : decode cX0_knownWithCode 4 = .ok (.getfield 43, 3) := by decide +kernel
theorem dX0_knownWithCode_7 : decode cX0_knownWithCode 7 = .ok (.if_icmp .ge 36, 3) := by decide +kernel
theorem dX0_knownWithCode_10 : decode cX0_knownWithCode 10 = .ok (.aload_n 0, 1) := by decide +kernel
theorem dX0_knownWithCode_11 : decode cX0_knownWithCode 11 = .ok (.getfield 25, 3) := by decide +kernel
theorem dX0_knownWithCode_14 : decode cX0_knownWithCode 14 = .ok (.iload_n 2, 1) := by decide +kernel
theorem dX0_knownWithCode_15 : decode cX0_knownWithCode 15 = .ok (.aaload, 1) := by decide +kernel
theorem dX0_knownWithCode_16 : decode cX0_knownWithCode 16 = .ok (.getfield 63, 3) := by decide +kernel
theorem dX0_knownWithCode_19 : decode cX0_knownWithCode 19 = .ok (.ifCond .eq 18, 3) := by decide +kernel
theorem dX0_knownWithCode_22 : decode cX0_knownWithCode 22 = .ok (.aload_n 0, 1) := by decide +kernel
theorem dX0_knownWithCode_23 : decode cX0_knownWithCode 23 = .ok (.getfield 25, 3) := by decide +kernel
theorem dX0_knownWithCode_26 : decode cX0_knownWithCode 26 = .ok (.iload_n 2, 1) := by decide +kernel
theorem dX0_knownWithCode_27 : decode cX0_knownWithCode 27 = .ok (.aaload, 1) := by decide +kernel
theorem dX0_knownWithCode_28 : decode cX0_knownWithCode 28 = .ok (.getfield 67, 3) := by decide +kernel
theorem dX0_knownWithCode_31 : decode cX0_knownWithCode 31 = .ok (.iload_n 1, 1) := by decide +kernel
theorem dX0_knownWithCode_32 : decode cX0_knownWithCode 32 = .ok (.if_icmp .ne 5, 3) := by decide +kernel
theorem dX0_knownWithCode_35 : decode cX0_knownWithCode 35 = .ok (.iload_n 2, 1) := by decide +kernel
theorem dX0_knownWithCode_36 : decode cX0_knownWithCode 36 = .ok (.ireturn, 1) := by decide +kernel
theorem dX0_knownWithCode_37 : decode cX0_knownWithCode 37 = .ok (.iinc 2 1, 3) := by decide +kernel
theorem dX0_knownWithCode_40 : decode cX0_knownWithCode 40 = .ok (.goto (-38), 3) := by decide +kernel
theorem dX0_knownWithCode_43 : decode cX0_knownWithCode 43 = .ok (.bipush (-6), 2) := by decide +kernel
theorem dX0_knownWithCode_45 : decode cX0_knownWithCode 45 = .ok (.ireturn, 1) := by decide +kernel
theorem dX0_drawn_0 : decode cX0_drawn 0 = .ok (.iconst 0, 1) := by decide +kernel
theorem dX0_drawn_1 : decode cX0_drawn 1 = .ok (.istore_n 1, 1) := by decide +kernel
theorem dX0_drawn_2 : decode cX0_drawn 2 = .ok (.iconst 0, 1) := by decide +kernel
theorem dX0_drawn_3 : decode cX0_drawn 3 = .ok (.istore_n 2, 1) := by decide +kernel
theorem dX0_drawn_4 : decode cX0_drawn 4 = .ok (.iload_n 2, 1) := by decide +kernel
theorem dX0_drawn_5 : decode cX0_drawn 5 = .ok (.aload_n 0, 1) := by decide +kernel
theorem dX0_drawn_6 : decode cX0_drawn 6 = .ok (.getfield 43, 3) := by decide +kernel
theorem dX0_drawn_9 : decode cX0_drawn 9 = .ok (.if_icmp .ge 34, 3) := by decide +kernel
theorem dX0_drawn_12 : decode cX0_drawn 12 = .ok (.iload_n 1, 1) := by decide +kernel
theorem dX0_drawn_13 : decode cX0_drawn 13 = .ok (.aload_n 0, 1) := by decide +kernel
theorem dX0_drawn_14 : decode cX0_drawn 14 = .ok (.getfield 25, 3) := by decide +kernel
theorem dX0_drawn_17 : decode cX0_drawn 17 = .ok (.iload_n 2, 1) := by decide +kernel
theorem dX0_drawn_18 : decode cX0_drawn 18 = .ok (.aaload, 1) := by decide +kernel
theorem dX0_drawn_19 : decode cX0_drawn 19 = .ok (.getfield 70, 3) := by decide +kernel
theorem dX0_drawn_22 : decode cX0_drawn 22 = .ok (.aload_n 0, 1) := by decide +kernel
theorem dX0_drawn_23 : decode cX0_drawn 23 = .ok (.getfield 25, 3) := by decide +kernel
theorem dX0_drawn_26 : decode cX0_drawn 26 = .ok (.iload_n 2, 1) := by decide +kernel
theorem dX0_drawn_27 : decode cX0_drawn 27 = .ok (.aaload, 1) := by decide +kernel
theorem dX0_drawn_28 : decode cX0_drawn 28 = .ok (.getfield 73, 3) := by decide +kernel
theorem dX0_drawn_31 : decode cX0_drawn 31 = .ok (.imul, 1) := by decide +kernel
theorem dX0_drawn_32 : decode cX0_drawn 32 = .ok (.bipush 100, 2) := by decide +kernel
theorem dX0_drawn_34 : decode cX0_drawn 34 = .ok (.idiv, 1) := by decide +kernel
theorem dX0_drawn_35 : decode cX0_drawn 35 = .ok (.iadd, 1) := by decide +kernel
theorem dX0_drawn_36 : decode cX0_drawn 36 = .ok (.istore_n 1, 1) := by decide +kernel
theorem dX0_drawn_37 : decode cX0_drawn 37 = .ok (.iinc 2 1, 3) := by decide +kernel
theorem dX0_drawn_40 : decode cX0_drawn 40 = .ok (.goto (-36), 3) := by decide +kernel
theorem dX0_drawn_43 : decode cX0_drawn 43 = .ok (.iload_n 1, 1) := by decide +kernel
theorem dX0_drawn_44 : decode cX0_drawn 44 = .ok (.ireturn, 1) := by decide +kernel
theorem dX0_pulledTooSoon_0 : decode cX0_pulledTooSoon 0 = .ok (.iconst 0, 1) := by decide +kernel
theorem dX0_pulledTooSoon_1 : decode cX0_pulledTooSoon 1 = .ok (.istore_n 1, 1) := by decide +kernel
theorem dX0_pulledTooSoon_2 : decode cX0_pulledTooSoon 2 = .ok (.iconst 0, 1) := by decide +kernel
theorem dX0_pulledTooSoon_3 : decode cX0_pulledTooSoon 3 = .ok (.istore_n 2, 1) := by decide +kernel
theorem dX0_pulledTooSoon_4 : decode cX0_pulledTooSoon 4 = .ok (.iload_n 2, 1) := by decide +kernel
theorem dX0_pulledTooSoon_5 : decode cX0_pulledTooSoon 5 = .ok (.aload_n 0, 1) := by decide +kernel
theorem dX0_pulledTooSoon_6 : decode cX0_pulledTooSoon 6 = .ok (.getfield 43, 3) := by decide +kernel
theorem dX0_pulledTooSoon_9 : decode cX0_pulledTooSoon 9 = .ok (.if_icmp .ge 21, 3) := by decide +kernel
theorem dX0_pulledTooSoon_12 : decode cX0_pulledTooSoon 12 = .ok (.iload_n 1, 1) := by decide +kernel
theorem dX0_pulledTooSoon_13 : decode cX0_pulledTooSoon 13 = .ok (.aload_n 0, 1) := by decide +kernel
theorem dX0_pulledTooSoon_14 : decode cX0_pulledTooSoon 14 = .ok (.getfield 25, 3) := by decide +kernel
theorem dX0_pulledTooSoon_17 : decode cX0_pulledTooSoon 17 = .ok (.iload_n 2, 1) := by decide +kernel
theorem dX0_pulledTooSoon_18 : decode cX0_pulledTooSoon 18 = .ok (.aaload, 1) := by decide +kernel
theorem dX0_pulledTooSoon_19 : decode cX0_pulledTooSoon 19 = .ok (.getfield 76, 3) := by decide +kernel
theorem dX0_pulledTooSoon_22 : decode cX0_pulledTooSoon 22 = .ok (.iadd, 1) := by decide +kernel
theorem dX0_pulledTooSoon_23 : decode cX0_pulledTooSoon 23 = .ok (.istore_n 1, 1) := by decide +kernel
theorem dX0_pulledTooSoon_24 : decode cX0_pulledTooSoon 24 = .ok (.iinc 2 1, 3) := by decide +kernel
theorem dX0_pulledTooSoon_27 : decode cX0_pulledTooSoon 27 = .ok (.goto (-23), 3) := by decide +kernel
theorem dX0_pulledTooSoon_30 : decode cX0_pulledTooSoon 30 = .ok (.iload_n 1, 1) := by decide +kernel
theorem dX0_pulledTooSoon_31 : decode cX0_pulledTooSoon 31 = .ok (.ireturn, 1) := by decide +kernel
theorem dX0_isHeld_0 : decode cX0_isHeld 0 = .ok (.aload_n 0, 1) := by decide +kernel
theorem dX0_isHeld_1 : decode cX0_isHeld 1 = .ok (.getfield 18, 3) := by decide +kernel
theorem dX0_isHeld_4 : decode cX0_isHeld 4 = .ok (.iconst 0, 1) := by decide +kernel
theorem dX0_isHeld_5 : decode cX0_isHeld 5 = .ok (.iaload, 1) := by decide +kernel
theorem dX0_isHeld_6 : decode cX0_isHeld 6 = .ok (.ifCond .ne 5, 3) := by decide +kernel
theorem dX0_isHeld_9 : decode cX0_isHeld 9 = .ok (.iconst 0, 1) := by decide +kernel
theorem dX0_isHeld_10 : decode cX0_isHeld 10 = .ok (.ireturn, 1) := by decide +kernel
theorem dX0_isHeld_11 : decode cX0_isHeld 11 = .ok (.iconst 0, 1) := by decide +kernel
theorem dX0_isHeld_12 : decode cX0_isHeld 12 = .ok (.istore_n 1, 1) := by decide +kernel
theorem dX0_isHeld_13 : decode cX0_isHeld 13 = .ok (.iload_n 1, 1) := by decide +kernel
theorem dX0_isHeld_14 : decode cX0_isHeld 14 = .ok (.aload_n 0, 1) := by decide +kernel
theorem dX0_isHeld_15 : decode cX0_isHeld 15 = .ok (.getfield 43, 3) := by decide +kernel
theorem dX0_isHeld_18 : decode cX0_isHeld 18 = .ok (.if_icmp .ge 23, 3) := by decide +kernel
theorem dX0_isHeld_21 : decode cX0_isHeld 21 = .ok (.aload_n 0, 1) := by decide +kernel
theorem dX0_isHeld_22 : decode cX0_isHeld 22 = .ok (.getfield 25, 3) := by decide +kernel
theorem dX0_isHeld_25 : decode cX0_isHeld 25 = .ok (.iload_n 1, 1) := by decide +kernel
theorem dX0_isHeld_26 : decode cX0_isHeld 26 = .ok (.aaload, 1) := by decide +kernel
theorem dX0_isHeld_27 : decode cX0_isHeld 27 = .ok (.invokevirtual 79, 3) := by decide +kernel
theorem dX0_isHeld_30 : decode cX0_isHeld 30 = .ok (.ifCond .eq 5, 3) := by decide +kernel
theorem dX0_isHeld_33 : decode cX0_isHeld 33 = .ok (.iconst 1, 1) := by decide +kernel
theorem dX0_isHeld_34 : decode cX0_isHeld 34 = .ok (.ireturn, 1) := by decide +kernel
theorem dX0_isHeld_35 : decode cX0_isHeld 35 = .ok (.iinc 1 1, 3) := by decide +kernel
theorem dX0_isHeld_38 : decode cX0_isHeld 38 = .ok (.goto (-25), 3) := by decide +kernel
theorem dX0_isHeld_41 : decode cX0_isHeld 41 = .ok (.iconst 0, 1) := by decide +kernel
theorem dX0_isHeld_42 : decode cX0_isHeld 42 = .ok (.ireturn, 1) := by decide +kernel
theorem dX0_aboutBoard_0 : decode cX0_aboutBoard 0 = .ok (.aload_n 0, 1) := by decide +kernel
theorem dX0_aboutBoard_1 : decode cX0_aboutBoard 1 = .ok (.iload_n 1, 1) := by decide +kernel
theorem dX0_aboutBoard_2 : decode cX0_aboutBoard 2 = .ok (.invokevirtual 83, 3) := by decide +kernel
theorem dX0_aboutBoard_5 : decode cX0_aboutBoard 5 = .ok (.astore_n 3, 1) := by decide +kernel
theorem dX0_aboutBoard_6 : decode cX0_aboutBoard 6 = .ok (.aload_n 3, 1) := by decide +kernel
theorem dX0_aboutBoard_7 : decode cX0_aboutBoard 7 = .ok (.ifnonnull 5, 3) := by decide +kernel
theorem dX0_aboutBoard_10 : decode cX0_aboutBoard 10 = .ok (.iconst (-1), 1) := by decide +kernel
theorem dX0_aboutBoard_11 : decode cX0_aboutBoard 11 = .ok (.ireturn, 1) := by decide +kernel
theorem dX0_aboutBoard_12 : decode cX0_aboutBoard 12 = .ok (.iload_n 2, 1) := by decide +kernel
theorem dX0_aboutBoard_13 : decode cX0_aboutBoard 13 = .ok (.tableswitch 137 0 10 #[59, 64, 69, 74, 79, 87, 92, 105, 118, 123, 132], 59) := by decide +kernel
theorem dX0_aboutBoard_72 : decode cX0_aboutBoard 72 = .ok (.aload_n 3, 1) := by decide +kernel
theorem dX0_aboutBoard_73 : decode cX0_aboutBoard 73 = .ok (.getfield 67, 3) := by decide +kernel
theorem dX0_aboutBoard_76 : decode cX0_aboutBoard 76 = .ok (.ireturn, 1) := by decide +kernel
theorem dX0_aboutBoard_77 : decode cX0_aboutBoard 77 = .ok (.aload_n 3, 1) := by decide +kernel
theorem dX0_aboutBoard_78 : decode cX0_aboutBoard 78 = .ok (.getfield 70, 3) := by decide +kernel
theorem dX0_aboutBoard_81 : decode cX0_aboutBoard 81 = .ok (.ireturn, 1) := by decide +kernel
theorem dX0_aboutBoard_82 : decode cX0_aboutBoard 82 = .ok (.aload_n 3, 1) := by decide +kernel
theorem dX0_aboutBoard_83 : decode cX0_aboutBoard 83 = .ok (.getfield 60, 3) := by decide +kernel
theorem dX0_aboutBoard_86 : decode cX0_aboutBoard 86 = .ok (.ireturn, 1) := by decide +kernel
theorem dX0_aboutBoard_87 : decode cX0_aboutBoard 87 = .ok (.aload_n 3, 1) := by decide +kernel
theorem dX0_aboutBoard_88 : decode cX0_aboutBoard 88 = .ok (.getfield 87, 3) := by decide +kernel
theorem dX0_aboutBoard_91 : decode cX0_aboutBoard 91 = .ok (.ireturn, 1) := by decide +kernel
theorem dX0_aboutBoard_92 : decode cX0_aboutBoard 92 = .ok (.aload_n 3, 1) := by decide +kernel
theorem dX0_aboutBoard_93 : decode cX0_aboutBoard 93 = .ok (.getfield 90, 3) := by decide +kernel
theorem dX0_aboutBoard_96 : decode cX0_aboutBoard 96 = .ok (.bipush 100, 2) := by decide +kernel
theorem dX0_aboutBoard_98 : decode cX0_aboutBoard 98 = .ok (.iadd, 1) := by decide +kernel
theorem dX0_aboutBoard_99 : decode cX0_aboutBoard 99 = .ok (.ireturn, 1) := by decide +kernel
theorem dX0_aboutBoard_100 : decode cX0_aboutBoard 100 = .ok (.aload_n 3, 1) := by decide +kernel
theorem dX0_aboutBoard_101 : decode cX0_aboutBoard 101 = .ok (.getfield 73, 3) := by decide +kernel
theorem dX0_aboutBoard_104 : decode cX0_aboutBoard 104 = .ok (.ireturn, 1) := by decide +kernel
theorem dX0_aboutBoard_105 : decode cX0_aboutBoard 105 = .ok (.aload_n 3, 1) := by decide +kernel
theorem dX0_aboutBoard_106 : decode cX0_aboutBoard 106 = .ok (.getfield 63, 3) := by decide +kernel
theorem dX0_aboutBoard_109 : decode cX0_aboutBoard 109 = .ok (.ifCond .eq 7, 3) := by decide +kernel
theorem dX0_aboutBoard_112 : decode cX0_aboutBoard 112 = .ok (.iconst 1, 1) := by decide +kernel
theorem dX0_aboutBoard_113 : decode cX0_aboutBoard 113 = .ok (.goto 4, 3) := by decide +kernel
theorem dX0_aboutBoard_116 : decode cX0_aboutBoard 116 = .ok (.iconst 0, 1) := by decide +kernel
theorem dX0_aboutBoard_117 : decode cX0_aboutBoard 117 = .ok (.ireturn, 1) := by decide +kernel
theorem dX0_aboutBoard_118 : decode cX0_aboutBoard 118 = .ok (.aload_n 3, 1) := by decide +kernel
theorem dX0_aboutBoard_119 : decode cX0_aboutBoard 119 = .ok (.getfield 93, 3) := by decide +kernel
theorem dX0_aboutBoard_122 : decode cX0_aboutBoard 122 = .ok (.ifCond .eq 7, 3) := by decide +kernel
theorem dX0_aboutBoard_125 : decode cX0_aboutBoard 125 = .ok (.iconst 1, 1) := by decide +kernel
theorem dX0_aboutBoard_126 : decode cX0_aboutBoard 126 = .ok (.goto 4, 3) := by decide +kernel
theorem dX0_aboutBoard_129 : decode cX0_aboutBoard 129 = .ok (.iconst 0, 1) := by decide +kernel
theorem dX0_aboutBoard_130 : decode cX0_aboutBoard 130 = .ok (.ireturn, 1) := by decide +kernel
theorem dX0_aboutBoard_131 : decode cX0_aboutBoard 131 = .ok (.aload_n 3, 1) := by decide +kernel
theorem dX0_aboutBoard_132 : decode cX0_aboutBoard 132 = .ok (.getfield 96, 3) := by decide +kernel
theorem dX0_aboutBoard_135 : decode cX0_aboutBoard 135 = .ok (.ireturn, 1) := by decide +kernel
theorem dX0_aboutBoard_136 : decode cX0_aboutBoard 136 = .ok (.aload_n 0, 1) := by decide +kernel
theorem dX0_aboutBoard_137 : decode cX0_aboutBoard 137 = .ok (.getfield 33, 3) := by decide +kernel
theorem dX0_aboutBoard_140 : decode cX0_aboutBoard 140 = .ok (.iload_n 1, 1) := by decide +kernel
theorem dX0_aboutBoard_141 : decode cX0_aboutBoard 141 = .ok (.invokevirtual 99, 3) := by decide +kernel
theorem dX0_aboutBoard_144 : decode cX0_aboutBoard 144 = .ok (.ireturn, 1) := by decide +kernel
theorem dX0_aboutBoard_145 : decode cX0_aboutBoard 145 = .ok (.aload_n 3, 1) := by decide +kernel
theorem dX0_aboutBoard_146 : decode cX0_aboutBoard 146 = .ok (.getfield 76, 3) := by decide +kernel
theorem dX0_aboutBoard_149 : decode cX0_aboutBoard 149 = .ok (.ireturn, 1) := by decide +kernel
theorem dX0_aboutBoard_150 : decode cX0_aboutBoard 150 = .ok (.bipush (-2), 2) := by decide +kernel
theorem dX0_aboutBoard_152 : decode cX0_aboutBoard 152 = .ok (.ireturn, 1) := by decide +kernel
theorem dX0_changeSetting_0 : decode cX0_changeSetting 0 = .ok (.iload_n 1, 1) := by decide +kernel
theorem dX0_changeSetting_1 : decode cX0_changeSetting 1 = .ok (.iconst 0, 1) := by decide +kernel
theorem dX0_changeSetting_2 : decode cX0_changeSetting 2 = .ok (.iconst 4, 1) := by decide +kernel
theorem dX0_changeSetting_3 : decode cX0_changeSetting 3 = .ok (.invokestatic 103, 3) := by decide +kernel
theorem dX0_changeSetting_6 : decode cX0_changeSetting 6 = .ok (.ifCond .ne 6, 3) := by decide +kernel
theorem dX0_changeSetting_9 : decode cX0_changeSetting 9 = .ok (.bipush (-2), 2) := by decide +kernel
theorem dX0_changeSetting_11 : decode cX0_changeSetting 11 = .ok (.ireturn, 1) := by decide +kernel
theorem dX0_changeSetting_12 : decode cX0_changeSetting 12 = .ok (.iload_n 2, 1) := by decide +kernel
theorem dX0_changeSetting_13 : decode cX0_changeSetting 13 = .ok (.getstatic 107, 3) := by decide +kernel
theorem dX0_changeSetting_16 : decode cX0_changeSetting 16 = .ok (.iload_n 1, 1) := by decide +kernel
theorem dX0_changeSetting_17 : decode cX0_changeSetting 17 = .ok (.iaload, 1) := by decide +kernel
theorem dX0_changeSetting_18 : decode cX0_changeSetting 18 = .ok (.getstatic 110, 3) := by decide +kernel
theorem dX0_changeSetting_21 : decode cX0_changeSetting 21 = .ok (.iload_n 1, 1) := by decide +kernel
theorem dX0_changeSetting_22 : decode cX0_changeSetting 22 = .ok (.iaload, 1) := by decide +kernel
theorem dX0_changeSetting_23 : decode cX0_changeSetting 23 = .ok (.invokestatic 103, 3) := by decide +kernel
theorem dX0_changeSetting_26 : decode cX0_changeSetting 26 = .ok (.ifCond .ne 6, 3) := by decide +kernel
theorem dX0_changeSetting_29 : decode cX0_changeSetting 29 = .ok (.bipush (-2), 2) := by decide +kernel
theorem dX0_changeSetting_31 : decode cX0_changeSetting 31 = .ok (.ireturn, 1) := by decide +kernel
theorem dX0_changeSetting_32 : decode cX0_changeSetting 32 = .ok (.aload_n 0, 1) := by decide +kernel
theorem dX0_changeSetting_33 : decode cX0_changeSetting 33 = .ok (.getfield 18, 3) := by decide +kernel
theorem dX0_changeSetting_36 : decode cX0_changeSetting 36 = .ok (.iload_n 1, 1) := by decide +kernel
theorem dX0_changeSetting_37 : decode cX0_changeSetting 37 = .ok (.iaload, 1) := by decide +kernel
theorem dX0_changeSetting_38 : decode cX0_changeSetting 38 = .ok (.istore_n 3, 1) := by decide +kernel
theorem dX0_changeSetting_39 : decode cX0_changeSetting 39 = .ok (.aload_n 0, 1) := by decide +kernel
theorem dX0_changeSetting_40 : decode cX0_changeSetting 40 = .ok (.getfield 18, 3) := by decide +kernel
theorem dX0_changeSetting_43 : decode cX0_changeSetting 43 = .ok (.iload_n 1, 1) := by decide +kernel
theorem dX0_changeSetting_44 : decode cX0_changeSetting 44 = .ok (.iload_n 2, 1) := by decide +kernel
theorem dX0_changeSetting_45 : decode cX0_changeSetting 45 = .ok (.iastore, 1) := by decide +kernel
theorem dX0_changeSetting_46 : decode cX0_changeSetting 46 = .ok (.iload_n 3, 1) := by decide +kernel
theorem dX0_changeSetting_47 : decode cX0_changeSetting 47 = .ok (.ireturn, 1) := by decide +kernel
theorem dX0_addBoard_0 : decode cX0_addBoard 0 = .ok (.iload_n 1, 1) := by decide +kernel
theorem dX0_addBoard_1 : decode cX0_addBoard 1 = .ok (.iconst 0, 1) := by decide +kernel
theorem dX0_addBoard_2 : decode cX0_addBoard 2 = .ok (.bipush 99, 2) := by decide +kernel
theorem dX0_addBoard_4 : decode cX0_addBoard 4 = .ok (.invokestatic 103, 3) := by decide +kernel
theorem dX0_addBoard_7 : decode cX0_addBoard 7 = .ok (.ifCond .eq 13, 3) := by decide +kernel
theorem dX0_addBoard_10 : decode cX0_addBoard 10 = .ok (.iload_n 2, 1) := by decide +kernel
theorem dX0_addBoard_11 : decode cX0_addBoard 11 = .ok (.iconst 1, 1) := by decide +kernel
theorem dX0_addBoard_12 : decode cX0_addBoard 12 = .ok (.bipush 60, 2) := by decide +kernel
theorem dX0_addBoard_14 : decode cX0_addBoard 14 = .ok (.invokestatic 103, 3) := by decide +kernel
theorem dX0_addBoard_17 : decode cX0_addBoard 17 = .ok (.ifCond .ne 6, 3) := by decide +kernel
theorem dX0_addBoard_20 : decode cX0_addBoard 20 = .ok (.bipush (-2), 2) := by decide +kernel
theorem dX0_addBoard_22 : decode cX0_addBoard 22 = .ok (.ireturn, 1) := by decide +kernel
theorem dX0_addBoard_23 : decode cX0_addBoard 23 = .ok (.aload_n 0, 1) := by decide +kernel
theorem dX0_addBoard_24 : decode cX0_addBoard 24 = .ok (.getfield 43, 3) := by decide +kernel
theorem dX0_addBoard_27 : decode cX0_addBoard 27 = .ok (.bipush 8, 2) := by decide +kernel
theorem dX0_addBoard_29 : decode cX0_addBoard 29 = .ok (.if_icmp .lt 6, 3) := by decide +kernel
theorem dX0_addBoard_32 : decode cX0_addBoard 32 = .ok (.bipush (-4), 2) := by decide +kernel
theorem dX0_addBoard_34 : decode cX0_addBoard 34 = .ok (.ireturn, 1) := by decide +kernel
theorem dX0_addBoard_35 : decode cX0_addBoard 35 = .ok (.aload_n 0, 1) := by decide +kernel
theorem dX0_addBoard_36 : decode cX0_addBoard 36 = .ok (.getfield 43, 3) := by decide +kernel
theorem dX0_addBoard_39 : decode cX0_addBoard 39 = .ok (.istore_n 3, 1) := by decide +kernel
theorem dX0_addBoard_40 : decode cX0_addBoard 40 = .ok (.aload_n 0, 1) := by decide +kernel
theorem dX0_addBoard_41 : decode cX0_addBoard 41 = .ok (.getfield 25, 3) := by decide +kernel
theorem dX0_addBoard_44 : decode cX0_addBoard 44 = .ok (.iload_n 3, 1) := by decide +kernel
theorem dX0_addBoard_45 : decode cX0_addBoard 45 = .ok (.aaload, 1) := by decide +kernel
theorem dX0_addBoard_46 : decode cX0_addBoard 46 = .ok (.iload_n 1, 1) := by decide +kernel
theorem dX0_addBoard_47 : decode cX0_addBoard 47 = .ok (.iload_n 2, 1) := by decide +kernel
theorem dX0_addBoard_48 : decode cX0_addBoard 48 = .ok (.invokevirtual 113, 3) := by decide +kernel
theorem dX0_addBoard_51 : decode cX0_addBoard 51 = .ok (.aload_n 0, 1) := by decide +kernel
theorem dX0_addBoard_52 : decode cX0_addBoard 52 = .ok (.dup, 1) := by decide +kernel
theorem dX0_addBoard_53 : decode cX0_addBoard 53 = .ok (.getfield 43, 3) := by decide +kernel
theorem dX0_addBoard_56 : decode cX0_addBoard 56 = .ok (.iconst 1, 1) := by decide +kernel
theorem dX0_addBoard_57 : decode cX0_addBoard 57 = .ok (.iadd, 1) := by decide +kernel
theorem dX0_addBoard_58 : decode cX0_addBoard 58 = .ok (.putfield 43, 3) := by decide +kernel
theorem dX0_addBoard_61 : decode cX0_addBoard 61 = .ok (.iload_n 3, 1) := by decide +kernel
theorem dX0_addBoard_62 : decode cX0_addBoard 62 = .ok (.ireturn, 1) := by decide +kernel
theorem dX0_inwardError_0 : decode cX0_inwardError 0 = .ok (.aload_n 0, 1) := by decide +kernel
theorem dX0_inwardError_1 : decode cX0_inwardError 1 = .ok (.iload_n 1, 1) := by decide +kernel
theorem dX0_inwardError_2 : decode cX0_inwardError 2 = .ok (.invokevirtual 83, 3) := by decide +kernel
theorem dX0_inwardError_5 : decode cX0_inwardError 5 = .ok (.astore 4, 2) := by decide +kernel
theorem dX0_inwardError_7 : decode cX0_inwardError 7 = .ok (.aload 4, 2) := by decide +kernel
theorem dX0_inwardError_9 : decode cX0_inwardError 9 = .ok (.ifnull 10, 3) := by decide +kernel
theorem dX0_inwardError_12 : decode cX0_inwardError 12 = .ok (.iload_n 2, 1) := by decide +kernel
theorem dX0_inwardError_13 : decode cX0_inwardError 13 = .ok (.invokestatic 117, 3) := by decide +kernel
theorem dX0_inwardError_16 : decode cX0_inwardError 16 = .ok (.ifCond .ne 5, 3) := by decide +kernel
theorem dX0_inwardError_19 : decode cX0_inwardError 19 = .ok (.iconst (-1), 1) := by decide +kernel
theorem dX0_inwardError_20 : decode cX0_inwardError 20 = .ok (.ireturn, 1) := by decide +kernel
theorem dX0_inwardError_21 : decode cX0_inwardError 21 = .ok (.iload_n 3, 1) := by decide +kernel
theorem dX0_inwardError_22 : decode cX0_inwardError 22 = .ok (.iconst 1, 1) := by decide +kernel
theorem dX0_inwardError_23 : decode cX0_inwardError 23 = .ok (.bipush 24, 2) := by decide +kernel
theorem dX0_inwardError_25 : decode cX0_inwardError 25 = .ok (.invokestatic 103, 3) := by decide +kernel
theorem dX0_inwardError_28 : decode cX0_inwardError 28 = .ok (.ifCond .ne 6, 3) := by decide +kernel
theorem dX0_inwardError_31 : decode cX0_inwardError 31 = .ok (.bipush (-2), 2) := by decide +kernel
theorem dX0_inwardError_33 : decode cX0_inwardError 33 = .ok (.ireturn, 1) := by decide +kernel
theorem dX0_inwardError_34 : decode cX0_inwardError 34 = .ok (.aload 4, 2) := by decide +kernel
theorem dX0_inwardError_36 : decode cX0_inwardError 36 = .ok (.getfield 60, 3) := by decide +kernel
theorem dX0_inwardError_39 : decode cX0_inwardError 39 = .ok (.bipush (-6), 2) := by decide +kernel
theorem dX0_inwardError_41 : decode cX0_inwardError 41 = .ok (.if_icmp .eq 16, 3) := by decide +kernel
theorem dX0_inwardError_44 : decode cX0_inwardError 44 = .ok (.aload 4, 2) := by decide +kernel
theorem dX0_inwardError_46 : decode cX0_inwardError 46 = .ok (.getfield 60, 3) := by decide +kernel
theorem dX0_inwardError_49 : decode cX0_inwardError 49 = .ok (.iload_n 2, 1) := by decide +kernel
theorem dX0_inwardError_50 : decode cX0_inwardError 50 = .ok (.if_icmp .eq 7, 3) := by decide +kernel
theorem dX0_inwardError_53 : decode cX0_inwardError 53 = .ok (.iconst 1, 1) := by decide +kernel
theorem dX0_inwardError_54 : decode cX0_inwardError 54 = .ok (.goto 4, 3) := by decide +kernel
theorem dX0_inwardError_57 : decode cX0_inwardError 57 = .ok (.iconst 0, 1) := by decide +kernel
theorem dX0_inwardError_58 : decode cX0_inwardError 58 = .ok (.istore 5, 2) := by decide +kernel
theorem dX0_inwardError_60 : decode cX0_inwardError 60 = .ok (.aload_n 0, 1) := by decide +kernel
theorem dX0_inwardError_61 : decode cX0_inwardError 61 = .ok (.iload_n 2, 1) := by decide +kernel
theorem dX0_inwardError_62 : decode cX0_inwardError 62 = .ok (.invokevirtual 121, 3) := by decide +kernel
theorem dX0_inwardError_65 : decode cX0_inwardError 65 = .ok (.istore 6, 2) := by decide +kernel
theorem dX0_inwardError_67 : decode cX0_inwardError 67 = .ok (.iload 6, 2) := by decide +kernel
theorem dX0_inwardError_69 : decode cX0_inwardError 69 = .ok (.bipush (-6), 2) := by decide +kernel
theorem dX0_inwardError_71 : decode cX0_inwardError 71 = .ok (.if_icmp .eq 13, 3) := by decide +kernel
theorem dX0_inwardError_74 : decode cX0_inwardError 74 = .ok (.iload 6, 2) := by decide +kernel
theorem dX0_inwardError_76 : decode cX0_inwardError 76 = .ok (.iload_n 1, 1) := by decide +kernel
theorem dX0_inwardError_77 : decode cX0_inwardError 77 = .ok (.if_icmp .eq 7, 3) := by decide +kernel
theorem dX0_inwardError_80 : decode cX0_inwardError 80 = .ok (.iconst 1, 1) := by decide +kernel
theorem dX0_inwardError_81 : decode cX0_inwardError 81 = .ok (.goto 4, 3) := by decide +kernel
theorem dX0_inwardError_84 : decode cX0_inwardError 84 = .ok (.iconst 0, 1) := by decide +kernel
theorem dX0_inwardError_85 : decode cX0_inwardError 85 = .ok (.istore 7, 2) := by decide +kernel
theorem dX0_inwardError_87 : decode cX0_inwardError 87 = .ok (.iload 5, 2) := by decide +kernel
theorem dX0_inwardError_89 : decode cX0_inwardError 89 = .ok (.ifCond .ne 18, 3) := by decide +kernel
theorem dX0_inwardError_92 : decode cX0_inwardError 92 = .ok (.iload 7, 2) := by decide +kernel
theorem dX0_inwardError_94 : decode cX0_inwardError 94 = .ok (.ifCond .ne 13, 3) := by decide +kernel
theorem dX0_inwardError_97 : decode cX0_inwardError 97 = .ok (.aload 4, 2) := by decide +kernel
theorem dX0_inwardError_99 : decode cX0_inwardError 99 = .ok (.getfield 87, 3) := by decide +kernel
theorem dX0_inwardError_102 : decode cX0_inwardError 102 = .ok (.bipush 24, 2) := by decide +kernel
theorem dX0_inwardError_104 : decode cX0_inwardError 104 = .ok (.if_icmp .ne 6, 3) := by decide +kernel
theorem dX0_inwardError_107 : decode cX0_inwardError 107 = .ok (.bipush (-5), 2) := by decide +kernel
theorem dX0_inwardError_109 : decode cX0_inwardError 109 = .ok (.ireturn, 1) := by decide +kernel
theorem dX0_inwardError_110 : decode cX0_inwardError 110 = .ok (.iconst 0, 1) := by decide +kernel
theorem dX0_inwardError_111 : decode cX0_inwardError 111 = .ok (.ireturn, 1) := by decide +kernel
theorem dX0_moveInward_0 : decode cX0_moveInward 0 = .ok (.aload_n 0, 1) := by decide +kernel
theorem dX0_moveInward_1 : decode cX0_moveInward 1 = .ok (.iload_n 1, 1) := by decide +kernel
theorem dX0_moveInward_2 : decode cX0_moveInward 2 = .ok (.iload_n 2, 1) := by decide +kernel
theorem dX0_moveInward_3 : decode cX0_moveInward 3 = .ok (.iload_n 3, 1) := by decide +kernel
theorem dX0_moveInward_4 : decode cX0_moveInward 4 = .ok (.invokevirtual 124, 3) := by decide +kernel
theorem dX0_moveInward_7 : decode cX0_moveInward 7 = .ok (.istore 4, 2) := by decide +kernel
theorem dX0_moveInward_9 : decode cX0_moveInward 9 = .ok (.aload_n 0, 1) := by decide +kernel
theorem dX0_moveInward_10 : decode cX0_moveInward 10 = .ok (.iload_n 1, 1) := by decide +kernel
theorem dX0_moveInward_11 : decode cX0_moveInward 11 = .ok (.invokevirtual 83, 3) := by decide +kernel
theorem dX0_moveInward_14 : decode cX0_moveInward 14 = .ok (.astore 5, 2) := by decide +kernel
theorem dX0_moveInward_16 : decode cX0_moveInward 16 = .ok (.iload 4, 2) := by decide +kernel
theorem dX0_moveInward_18 : decode cX0_moveInward 18 = .ok (.ifCond .lt 8, 3) := by decide +kernel
theorem dX0_moveInward_21 : decode cX0_moveInward 21 = .ok (.aload 5, 2) := by decide +kernel
theorem dX0_moveInward_23 : decode cX0_moveInward 23 = .ok (.ifnonnull 6, 3) := by decide +kernel
theorem dX0_moveInward_26 : decode cX0_moveInward 26 = .ok (.iload 4, 2) := by decide +kernel
theorem dX0_moveInward_28 : decode cX0_moveInward 28 = .ok (.ireturn, 1) := by decide +kernel
theorem dX0_moveInward_29 : decode cX0_moveInward 29 = .ok (.aload 5, 2) := by decide +kernel
theorem dX0_moveInward_31 : decode cX0_moveInward 31 = .ok (.iload_n 2, 1) := by decide +kernel
theorem dX0_moveInward_32 : decode cX0_moveInward 32 = .ok (.putfield 60, 3) := by decide +kernel
theorem dX0_moveInward_35 : decode cX0_moveInward 35 = .ok (.aload 5, 2) := by decide +kernel
theorem dX0_moveInward_37 : decode cX0_moveInward 37 = .ok (.iload_n 3, 1) := by decide +kernel
theorem dX0_moveInward_38 : decode cX0_moveInward 38 = .ok (.putfield 90, 3) := by decide +kernel
theorem dX0_moveInward_41 : decode cX0_moveInward 41 = .ok (.aload 5, 2) := by decide +kernel
theorem dX0_moveInward_43 : decode cX0_moveInward 43 = .ok (.iconst 0, 1) := by decide +kernel
theorem dX0_moveInward_44 : decode cX0_moveInward 44 = .ok (.putfield 93, 3) := by decide +kernel
theorem dX0_moveInward_47 : decode cX0_moveInward 47 = .ok (.aload 5, 2) := by decide +kernel
theorem dX0_moveInward_49 : decode cX0_moveInward 49 = .ok (.getfield 87, 3) := by decide +kernel
theorem dX0_moveInward_52 : decode cX0_moveInward 52 = .ok (.ireturn, 1) := by decide +kernel
theorem dX0_moveOutward_0 : decode cX0_moveOutward 0 = .ok (.aload_n 0, 1) := by decide +kernel
theorem dX0_moveOutward_1 : decode cX0_moveOutward 1 = .ok (.iload_n 1, 1) := by decide +kernel
theorem dX0_moveOutward_2 : decode cX0_moveOutward 2 = .ok (.invokevirtual 83, 3) := by decide +kernel
theorem dX0_moveOutward_5 : decode cX0_moveOutward 5 = .ok (.astore_n 3, 1) := by decide +kernel
theorem dX0_moveOutward_6 : decode cX0_moveOutward 6 = .ok (.aload_n 3, 1) := by decide +kernel
theorem dX0_moveOutward_7 : decode cX0_moveOutward 7 = .ok (.ifnonnull 5, 3) := by decide +kernel
theorem dX0_moveOutward_10 : decode cX0_moveOutward 10 = .ok (.iconst (-1), 1) := by decide +kernel
theorem dX0_moveOutward_11 : decode cX0_moveOutward 11 = .ok (.ireturn, 1) := by decide +kernel
theorem dX0_moveOutward_12 : decode cX0_moveOutward 12 = .ok (.iload_n 2, 1) := by decide +kernel
theorem dX0_moveOutward_13 : decode cX0_moveOutward 13 = .ok (.iconst 1, 1) := by decide +kernel
theorem dX0_moveOutward_14 : decode cX0_moveOutward 14 = .ok (.bipush 24, 2) := by decide +kernel
theorem dX0_moveOutward_16 : decode cX0_moveOutward 16 = .ok (.invokestatic 103, 3) := by decide +kernel
theorem dX0_moveOutward_19 : decode cX0_moveOutward 19 = .ok (.ifCond .ne 6, 3) := by decide +kernel
theorem dX0_moveOutward_22 : decode cX0_moveOutward 22 = .ok (.bipush (-2), 2) := by decide +kernel
theorem dX0_moveOutward_24 : decode cX0_moveOutward 24 = .ok (.ireturn, 1) := by decide +kernel
theorem dX0_moveOutward_25 : decode cX0_moveOutward 25 = .ok (.aload_n 3, 1) := by decide +kernel
theorem dX0_moveOutward_26 : decode cX0_moveOutward 26 = .ok (.getfield 60, 3) := by decide +kernel
theorem dX0_moveOutward_29 : decode cX0_moveOutward 29 = .ok (.bipush (-6), 2) := by decide +kernel
theorem dX0_moveOutward_31 : decode cX0_moveOutward 31 = .ok (.if_icmp .ne 6, 3) := by decide +kernel
theorem dX0_moveOutward_34 : decode cX0_moveOutward 34 = .ok (.bipush (-5), 2) := by decide +kernel
theorem dX0_moveOutward_36 : decode cX0_moveOutward 36 = .ok (.ireturn, 1) := by decide +kernel
theorem dX0_moveOutward_37 : decode cX0_moveOutward 37 = .ok (.aload_n 3, 1) := by decide +kernel
theorem dX0_moveOutward_38 : decode cX0_moveOutward 38 = .ok (.iload_n 2, 1) := by decide +kernel
theorem dX0_moveOutward_39 : decode cX0_moveOutward 39 = .ok (.ineg, 1) := by decide +kernel
theorem dX0_moveOutward_40 : decode cX0_moveOutward 40 = .ok (.putfield 90, 3) := by decide +kernel
theorem dX0_moveOutward_43 : decode cX0_moveOutward 43 = .ok (.aload_n 3, 1) := by decide +kernel
theorem dX0_moveOutward_44 : decode cX0_moveOutward 44 = .ok (.getfield 87, 3) := by decide +kernel
theorem dX0_moveOutward_47 : decode cX0_moveOutward 47 = .ok (.ireturn, 1) := by decide +kernel
theorem dX0_askToLeave_0 : decode cX0_askToLeave 0 = .ok (.aload_n 0, 1) := by decide +kernel
theorem dX0_askToLeave_1 : decode cX0_askToLeave 1 = .ok (.iload_n 1, 1) := by decide +kernel
theorem dX0_askToLeave_2 : decode cX0_askToLeave 2 = .ok (.invokevirtual 83, 3) := by decide +kernel
theorem dX0_askToLeave_5 : decode cX0_askToLeave 5 = .ok (.astore_n 2, 1) := by decide +kernel
theorem dX0_askToLeave_6 : decode cX0_askToLeave 6 = .ok (.aload_n 2, 1) := by decide +kernel
theorem dX0_askToLeave_7 : decode cX0_askToLeave 7 = .ok (.ifnonnull 5, 3) := by decide +kernel
theorem dX0_askToLeave_10 : decode cX0_askToLeave 10 = .ok (.iconst (-1), 1) := by decide +kernel
theorem dX0_askToLeave_11 : decode cX0_askToLeave 11 = .ok (.ireturn, 1) := by decide +kernel
theorem dX0_askToLeave_12 : decode cX0_askToLeave 12 = .ok (.aload_n 2, 1) := by decide +kernel
theorem dX0_askToLeave_13 : decode cX0_askToLeave 13 = .ok (.getfield 63, 3) := by decide +kernel
theorem dX0_askToLeave_16 : decode cX0_askToLeave 16 = .ok (.ifCond .eq 10, 3) := by decide +kernel
theorem dX0_askToLeave_19 : decode cX0_askToLeave 19 = .ok (.aload_n 2, 1) := by decide +kernel
theorem dX0_askToLeave_20 : decode cX0_askToLeave 20 = .ok (.getfield 93, 3) := by decide +kernel
theorem dX0_askToLeave_23 : decode cX0_askToLeave 23 = .ok (.ifCond .eq 6, 3) := by decide +kernel
theorem dX0_askToLeave_26 : decode cX0_askToLeave 26 = .ok (.bipush (-5), 2) := by decide +kernel
theorem dX0_askToLeave_28 : decode cX0_askToLeave 28 = .ok (.ireturn, 1) := by decide +kernel
theorem dX0_askToLeave_29 : decode cX0_askToLeave 29 = .ok (.aload_n 2, 1) := by decide +kernel
theorem dX0_askToLeave_30 : decode cX0_askToLeave 30 = .ok (.iconst 1, 1) := by decide +kernel
theorem dX0_askToLeave_31 : decode cX0_askToLeave 31 = .ok (.putfield 93, 3) := by decide +kernel
theorem dX0_askToLeave_34 : decode cX0_askToLeave 34 = .ok (.aload_n 0, 1) := by decide +kernel
theorem dX0_askToLeave_35 : decode cX0_askToLeave 35 = .ok (.getfield 33, 3) := by decide +kernel
theorem dX0_askToLeave_38 : decode cX0_askToLeave 38 = .ok (.iload_n 1, 1) := by decide +kernel
theorem dX0_askToLeave_39 : decode cX0_askToLeave 39 = .ok (.invokevirtual 128, 3) := by decide +kernel
theorem dX0_askToLeave_42 : decode cX0_askToLeave 42 = .ok (.ireturn, 1) := by decide +kernel
theorem dX0_whyNot_0 : decode cX0_whyNot 0 = .ok (.aload_n 0, 1) := by decide +kernel
theorem dX0_whyNot_1 : decode cX0_whyNot 1 = .ok (.iload_n 1, 1) := by decide +kernel
theorem dX0_whyNot_2 : decode cX0_whyNot 2 = .ok (.invokevirtual 83, 3) := by decide +kernel
theorem dX0_whyNot_5 : decode cX0_whyNot 5 = .ok (.astore_n 3, 1) := by decide +kernel
theorem dX0_whyNot_6 : decode cX0_whyNot 6 = .ok (.aload_n 0, 1) := by decide +kernel
theorem dX0_whyNot_7 : decode cX0_whyNot 7 = .ok (.iload_n 2, 1) := by decide +kernel
theorem dX0_whyNot_8 : decode cX0_whyNot 8 = .ok (.invokevirtual 83, 3) := by decide +kernel
theorem dX0_whyNot_11 : decode cX0_whyNot 11 = .ok (.astore 4, 2) := by decide +kernel
theorem dX0_whyNot_13 : decode cX0_whyNot 13 = .ok (.aload_n 3, 1) := by decide +kernel
theorem dX0_whyNot_14 : decode cX0_whyNot 14 = .ok (.ifnull 8, 3) := by decide +kernel
theorem dX0_whyNot_17 : decode cX0_whyNot 17 = .ok (.aload 4, 2) := by decide +kernel
theorem dX0_whyNot_19 : decode cX0_whyNot 19 = .ok (.ifnonnull 5, 3) := by decide +kernel
theorem dX0_whyNot_22 : decode cX0_whyNot 22 = .ok (.iconst (-1), 1) := by decide +kernel
theorem dX0_whyNot_23 : decode cX0_whyNot 23 = .ok (.ireturn, 1) := by decide +kernel
theorem dX0_whyNot_24 : decode cX0_whyNot 24 = .ok (.iload_n 1, 1) := by decide +kernel
theorem dX0_whyNot_25 : decode cX0_whyNot 25 = .ok (.iload_n 2, 1) := by decide +kernel
theorem dX0_whyNot_26 : decode cX0_whyNot 26 = .ok (.if_icmp .ne 6, 3) := by decide +kernel
theorem dX0_whyNot_29 : decode cX0_whyNot 29 = .ok (.bipush (-2), 2) := by decide +kernel
theorem dX0_whyNot_31 : decode cX0_whyNot 31 = .ok (.ireturn, 1) := by decide +kernel
theorem dX0_whyNot_32 : decode cX0_whyNot 32 = .ok (.aload_n 3, 1) := by decide +kernel
theorem dX0_whyNot_33 : decode cX0_whyNot 33 = .ok (.getfield 63, 3) := by decide +kernel
theorem dX0_whyNot_36 : decode cX0_whyNot 36 = .ok (.ifCond .ne 5, 3) := by decide +kernel
theorem dX0_whyNot_39 : decode cX0_whyNot 39 = .ok (.iconst 1, 1) := by decide +kernel
theorem dX0_whyNot_40 : decode cX0_whyNot 40 = .ok (.ireturn, 1) := by decide +kernel
theorem dX0_whyNot_41 : decode cX0_whyNot 41 = .ok (.aload 4, 2) := by decide +kernel
theorem dX0_whyNot_43 : decode cX0_whyNot 43 = .ok (.getfield 63, 3) := by decide +kernel
theorem dX0_whyNot_46 : decode cX0_whyNot 46 = .ok (.ifCond .ne 5, 3) := by decide +kernel
theorem dX0_whyNot_49 : decode cX0_whyNot 49 = .ok (.iconst 2, 1) := by decide +kernel
theorem dX0_whyNot_50 : decode cX0_whyNot 50 = .ok (.ireturn, 1) := by decide +kernel
theorem dX0_whyNot_51 : decode cX0_whyNot 51 = .ok (.aload_n 3, 1) := by decide +kernel
theorem dX0_whyNot_52 : decode cX0_whyNot 52 = .ok (.getfield 93, 3) := by decide +kernel
theorem dX0_whyNot_55 : decode cX0_whyNot 55 = .ok (.ifCond .ne 11, 3) := by decide +kernel
theorem dX0_whyNot_58 : decode cX0_whyNot 58 = .ok (.aload 4, 2) := by decide +kernel
theorem dX0_whyNot_60 : decode cX0_whyNot 60 = .ok (.getfield 93, 3) := by decide +kernel
theorem dX0_whyNot_63 : decode cX0_whyNot 63 = .ok (.ifCond .eq 7, 3) := by decide +kernel
theorem dX0_whyNot_66 : decode cX0_whyNot 66 = .ok (.iconst 3, 1) := by decide +kernel
theorem dX0_whyNot_67 : decode cX0_whyNot 67 = .ok (.goto 4, 3) := by decide +kernel
theorem dX0_whyNot_70 : decode cX0_whyNot 70 = .ok (.iconst 0, 1) := by decide +kernel
theorem dX0_whyNot_71 : decode cX0_whyNot 71 = .ok (.ireturn, 1) := by decide +kernel
theorem dX0_sendWord_0 : decode cX0_sendWord 0 = .ok (.aload_n 0, 1) := by decide +kernel
theorem dX0_sendWord_1 : decode cX0_sendWord 1 = .ok (.iload_n 1, 1) := by decide +kernel
theorem dX0_sendWord_2 : decode cX0_sendWord 2 = .ok (.iload_n 2, 1) := by decide +kernel
theorem dX0_sendWord_3 : decode cX0_sendWord 3 = .ok (.invokevirtual 131, 3) := by decide +kernel
theorem dX0_sendWord_6 : decode cX0_sendWord 6 = .ok (.istore_n 3, 1) := by decide +kernel
theorem dX0_sendWord_7 : decode cX0_sendWord 7 = .ok (.iload_n 3, 1) := by decide +kernel
theorem dX0_sendWord_8 : decode cX0_sendWord 8 = .ok (.ifCond .ge 5, 3) := by decide +kernel
theorem dX0_sendWord_11 : decode cX0_sendWord 11 = .ok (.iload_n 3, 1) := by decide +kernel
theorem dX0_sendWord_12 : decode cX0_sendWord 12 = .ok (.ireturn, 1) := by decide +kernel
theorem dX0_sendWord_13 : decode cX0_sendWord 13 = .ok (.iload_n 3, 1) := by decide +kernel
theorem dX0_sendWord_14 : decode cX0_sendWord 14 = .ok (.ifCond .le 8, 3) := by decide +kernel
theorem dX0_sendWord_17 : decode cX0_sendWord 17 = .ok (.bipush (-5), 2) := by decide +kernel
theorem dX0_sendWord_19 : decode cX0_sendWord 19 = .ok (.goto 12, 3) := by decide +kernel
theorem dX0_sendWord_22 : decode cX0_sendWord 22 = .ok (.aload_n 0, 1) := by decide +kernel
theorem dX0_sendWord_23 : decode cX0_sendWord 23 = .ok (.getfield 33, 3) := by decide +kernel
theorem dX0_sendWord_26 : decode cX0_sendWord 26 = .ok (.iload_n 1, 1) := by decide +kernel
theorem dX0_sendWord_27 : decode cX0_sendWord 27 = .ok (.iload_n 2, 1) := by decide +kernel
theorem dX0_sendWord_28 : decode cX0_sendWord 28 = .ok (.invokevirtual 135, 3) := by decide +kernel
theorem dX0_sendWord_31 : decode cX0_sendWord 31 = .ok (.ireturn, 1) := by decide +kernel
theorem dX0_passTicks_0 : decode cX0_passTicks 0 = .ok (.iload_n 1, 1) := by decide +kernel
theorem dX0_passTicks_1 : decode cX0_passTicks 1 = .ok (.iconst 1, 1) := by decide +kernel
theorem dX0_passTicks_2 : decode cX0_passTicks 2 = .ok (.bipush 99, 2) := by decide +kernel
theorem dX0_passTicks_4 : decode cX0_passTicks 4 = .ok (.invokestatic 103, 3) := by decide +kernel
theorem dX0_passTicks_7 : decode cX0_passTicks 7 = .ok (.ifCond .ne 6, 3) := by decide +kernel
theorem dX0_passTicks_10 : decode cX0_passTicks 10 = .ok (.bipush (-2), 2) := by decide +kernel
theorem dX0_passTicks_12 : decode cX0_passTicks 12 = .ok (.ireturn, 1) := by decide +kernel
theorem dX0_passTicks_13 : decode cX0_passTicks 13 = .ok (.aload_n 0, 1) := by decide +kernel
theorem dX0_passTicks_14 : decode cX0_passTicks 14 = .ok (.getfield 54, 3) := by decide +kernel
theorem dX0_passTicks_17 : decode cX0_passTicks 17 = .ok (.iload_n 1, 1) := by decide +kernel
theorem dX0_passTicks_18 : decode cX0_passTicks 18 = .ok (.iadd, 1) := by decide +kernel
theorem dX0_passTicks_19 : decode cX0_passTicks 19 = .ok (.sipush 9999, 3) := by decide +kernel
theorem dX0_passTicks_22 : decode cX0_passTicks 22 = .ok (.if_icmp .le 6, 3) := by decide +kernel
theorem dX0_passTicks_25 : decode cX0_passTicks 25 = .ok (.bipush (-5), 2) := by decide +kernel
theorem dX0_passTicks_27 : decode cX0_passTicks 27 = .ok (.ireturn, 1) := by decide +kernel
theorem dX0_passTicks_28 : decode cX0_passTicks 28 = .ok (.aload_n 0, 1) := by decide +kernel
theorem dX0_passTicks_29 : decode cX0_passTicks 29 = .ok (.getfield 33, 3) := by decide +kernel
theorem dX0_passTicks_32 : decode cX0_passTicks 32 = .ok (.getfield 138, 3) := by decide +kernel
theorem dX0_passTicks_35 : decode cX0_passTicks 35 = .ok (.istore_n 2, 1) := by decide +kernel
theorem dX0_passTicks_36 : decode cX0_passTicks 36 = .ok (.iconst 0, 1) := by decide +kernel
theorem dX0_passTicks_37 : decode cX0_passTicks 37 = .ok (.istore_n 3, 1) := by decide +kernel
theorem dX0_passTicks_38 : decode cX0_passTicks 38 = .ok (.iload_n 3, 1) := by decide +kernel
theorem dX0_passTicks_39 : decode cX0_passTicks 39 = .ok (.iload_n 1, 1) := by decide +kernel
theorem dX0_passTicks_40 : decode cX0_passTicks 40 = .ok (.if_icmp .ge 13, 3) := by decide +kernel
theorem dX0_passTicks_43 : decode cX0_passTicks 43 = .ok (.aload_n 0, 1) := by decide +kernel
theorem dX0_passTicks_44 : decode cX0_passTicks 44 = .ok (.invokevirtual 141, 3) := by decide +kernel
theorem dX0_passTicks_47 : decode cX0_passTicks 47 = .ok (.iinc 3 1, 3) := by decide +kernel
theorem dX0_passTicks_50 : decode cX0_passTicks 50 = .ok (.goto (-12), 3) := by decide +kernel
theorem dX0_passTicks_53 : decode cX0_passTicks 53 = .ok (.aload_n 0, 1) := by decide +kernel
theorem dX0_passTicks_54 : decode cX0_passTicks 54 = .ok (.getfield 33, 3) := by decide +kernel
theorem dX0_passTicks_57 : decode cX0_passTicks 57 = .ok (.getfield 138, 3) := by decide +kernel
theorem dX0_passTicks_60 : decode cX0_passTicks 60 = .ok (.iload_n 2, 1) := by decide +kernel
theorem dX0_passTicks_61 : decode cX0_passTicks 61 = .ok (.isub, 1) := by decide +kernel
theorem dX0_passTicks_62 : decode cX0_passTicks 62 = .ok (.ireturn, 1) := by decide +kernel
theorem dX0_ticksUntilKnown_0 : decode cX0_ticksUntilKnown 0 = .ok (.aload_n 0, 1) := by decide +kernel
theorem dX0_ticksUntilKnown_1 : decode cX0_ticksUntilKnown 1 = .ok (.iload_n 1, 1) := by decide +kernel
theorem dX0_ticksUntilKnown_2 : decode cX0_ticksUntilKnown 2 = .ok (.invokevirtual 83, 3) := by decide +kernel
theorem dX0_ticksUntilKnown_5 : decode cX0_ticksUntilKnown 5 = .ok (.astore_n 2, 1) := by decide +kernel
theorem dX0_ticksUntilKnown_6 : decode cX0_ticksUntilKnown 6 = .ok (.aload_n 2, 1) := by decide +kernel
theorem dX0_ticksUntilKnown_7 : decode cX0_ticksUntilKnown 7 = .ok (.ifnonnull 5, 3) := by decide +kernel
theorem dX0_ticksUntilKnown_10 : decode cX0_ticksUntilKnown 10 = .ok (.iconst (-1), 1) := by decide +kernel
theorem dX0_ticksUntilKnown_11 : decode cX0_ticksUntilKnown 11 = .ok (.ireturn, 1) := by decide +kernel
theorem dX0_ticksUntilKnown_12 : decode cX0_ticksUntilKnown 12 = .ok (.iconst 0, 1) := by decide +kernel
theorem dX0_ticksUntilKnown_13 : decode cX0_ticksUntilKnown 13 = .ok (.istore_n 3, 1) := by decide +kernel
theorem dX0_ticksUntilKnown_14 : decode cX0_ticksUntilKnown 14 = .ok (.iload_n 3, 1) := by decide +kernel
theorem dX0_ticksUntilKnown_15 : decode cX0_ticksUntilKnown 15 = .ok (.sipush 200, 3) := by decide +kernel
theorem dX0_ticksUntilKnown_18 : decode cX0_ticksUntilKnown 18 = .ok (.if_icmp .gt 22, 3) := by decide +kernel
theorem dX0_ticksUntilKnown_21 : decode cX0_ticksUntilKnown 21 = .ok (.aload_n 2, 1) := by decide +kernel
theorem dX0_ticksUntilKnown_22 : decode cX0_ticksUntilKnown 22 = .ok (.getfield 63, 3) := by decide +kernel
theorem dX0_ticksUntilKnown_25 : decode cX0_ticksUntilKnown 25 = .ok (.ifCond .eq 5, 3) := by decide +kernel
theorem dX0_ticksUntilKnown_28 : decode cX0_ticksUntilKnown 28 = .ok (.iload_n 3, 1) := by decide +kernel
theorem dX0_ticksUntilKnown_29 : decode cX0_ticksUntilKnown 29 = .ok (.ireturn, 1) := by decide +kernel
theorem dX0_ticksUntilKnown_30 : decode cX0_ticksUntilKnown 30 = .ok (.aload_n 0, 1) := by decide +kernel
theorem dX0_ticksUntilKnown_31 : decode cX0_ticksUntilKnown 31 = .ok (.invokevirtual 141, 3) := by decide +kernel
theorem dX0_ticksUntilKnown_34 : decode cX0_ticksUntilKnown 34 = .ok (.iinc 3 1, 3) := by decide +kernel
theorem dX0_ticksUntilKnown_37 : decode cX0_ticksUntilKnown 37 = .ok (.goto (-23), 3) := by decide +kernel
theorem dX0_ticksUntilKnown_40 : decode cX0_ticksUntilKnown 40 = .ok (.bipush (-6), 2) := by decide +kernel
theorem dX0_ticksUntilKnown_42 : decode cX0_ticksUntilKnown 42 = .ok (.ireturn, 1) := by decide +kernel
theorem dX0_ticksUntilQuiet_0 : decode cX0_ticksUntilQuiet 0 = .ok (.iconst 0, 1) := by decide +kernel
theorem dX0_ticksUntilQuiet_1 : decode cX0_ticksUntilQuiet 1 = .ok (.istore_n 1, 1) := by decide +kernel
theorem dX0_ticksUntilQuiet_2 : decode cX0_ticksUntilQuiet 2 = .ok (.iload_n 1, 1) := by decide +kernel
theorem dX0_ticksUntilQuiet_3 : decode cX0_ticksUntilQuiet 3 = .ok (.sipush 200, 3) := by decide +kernel
theorem dX0_ticksUntilQuiet_6 : decode cX0_ticksUntilQuiet 6 = .ok (.if_icmp .gt 25, 3) := by decide +kernel
theorem dX0_ticksUntilQuiet_9 : decode cX0_ticksUntilQuiet 9 = .ok (.aload_n 0, 1) := by decide +kernel
theorem dX0_ticksUntilQuiet_10 : decode cX0_ticksUntilQuiet 10 = .ok (.getfield 33, 3) := by decide +kernel
theorem dX0_ticksUntilQuiet_13 : decode cX0_ticksUntilQuiet 13 = .ok (.invokevirtual 144, 3) := by decide +kernel
theorem dX0_ticksUntilQuiet_16 : decode cX0_ticksUntilQuiet 16 = .ok (.ifCond .ne 5, 3) := by decide +kernel
theorem dX0_ticksUntilQuiet_19 : decode cX0_ticksUntilQuiet 19 = .ok (.iload_n 1, 1) := by decide +kernel
theorem dX0_ticksUntilQuiet_20 : decode cX0_ticksUntilQuiet 20 = .ok (.ireturn, 1) := by decide +kernel
theorem dX0_ticksUntilQuiet_21 : decode cX0_ticksUntilQuiet 21 = .ok (.aload_n 0, 1) := by decide +kernel
theorem dX0_ticksUntilQuiet_22 : decode cX0_ticksUntilQuiet 22 = .ok (.invokevirtual 141, 3) := by decide +kernel
theorem dX0_ticksUntilQuiet_25 : decode cX0_ticksUntilQuiet 25 = .ok (.iinc 1 1, 3) := by decide +kernel
theorem dX0_ticksUntilQuiet_28 : decode cX0_ticksUntilQuiet 28 = .ok (.goto (-26), 3) := by decide +kernel
theorem dX0_ticksUntilQuiet_31 : decode cX0_ticksUntilQuiet 31 = .ok (.bipush (-6), 2) := by decide +kernel
theorem dX0_ticksUntilQuiet_33 : decode cX0_ticksUntilQuiet 33 = .ok (.ireturn, 1) := by decide +kernel
theorem dX0_hurtsUntilStanding_0 : decode cX0_hurtsUntilStanding 0 = .ok (.aload_n 0, 1) := by decide +kernel
theorem dX0_hurtsUntilStanding_1 : decode cX0_hurtsUntilStanding 1 = .ok (.iload_n 1, 1) := by decide +kernel
theorem dX0_hurtsUntilStanding_2 : decode cX0_hurtsUntilStanding 2 = .ok (.invokevirtual 83, 3) := by decide +kernel
theorem dX0_hurtsUntilStanding_5 : decode cX0_hurtsUntilStanding 5 = .ok (.astore_n 2, 1) := by decide +kernel
theorem dX0_hurtsUntilStanding_6 : decode cX0_hurtsUntilStanding 6 = .ok (.aload_n 2, 1) := by decide +kernel
theorem dX0_hurtsUntilStanding_7 : decode cX0_hurtsUntilStanding 7 = .ok (.ifnonnull 5, 3) := by decide +kernel
theorem dX0_hurtsUntilStanding_10 : decode cX0_hurtsUntilStanding 10 = .ok (.iconst (-1), 1) := by decide +kernel
theorem dX0_hurtsUntilStanding_11 : decode cX0_hurtsUntilStanding 11 = .ok (.ireturn, 1) := by decide +kernel
theorem dX0_hurtsUntilStanding_12 : decode cX0_hurtsUntilStanding 12 = .ok (.aload_n 0, 1) := by decide +kernel
theorem dX0_hurtsUntilStanding_13 : decode cX0_hurtsUntilStanding 13 = .ok (.getfield 33, 3) := by decide +kernel
theorem dX0_hurtsUntilStanding_16 : decode cX0_hurtsUntilStanding 16 = .ok (.getfield 148, 3) := by decide +kernel
theorem dX0_hurtsUntilStanding_19 : decode cX0_hurtsUntilStanding 19 = .ok (.istore_n 3, 1) := by decide +kernel
theorem dX0_hurtsUntilStanding_20 : decode cX0_hurtsUntilStanding 20 = .ok (.iconst 0, 1) := by decide +kernel
theorem dX0_hurtsUntilStanding_21 : decode cX0_hurtsUntilStanding 21 = .ok (.istore 4, 2) := by decide +kernel
theorem dX0_hurtsUntilStanding_23 : decode cX0_hurtsUntilStanding 23 = .ok (.iload 4, 2) := by decide +kernel
theorem dX0_hurtsUntilStanding_25 : decode cX0_hurtsUntilStanding 25 = .ok (.bipush 24, 2) := by decide +kernel
theorem dX0_hurtsUntilStanding_27 : decode cX0_hurtsUntilStanding 27 = .ok (.if_icmp .ge 20, 3) := by decide +kernel
theorem dX0_hurtsUntilStanding_30 : decode cX0_hurtsUntilStanding 30 = .ok (.aload_n 2, 1) := by decide +kernel
theorem dX0_hurtsUntilStanding_31 : decode cX0_hurtsUntilStanding 31 = .ok (.getfield 90, 3) := by decide +kernel
theorem dX0_hurtsUntilStanding_34 : decode cX0_hurtsUntilStanding 34 = .ok (.ifCond .eq 13, 3) := by decide +kernel
theorem dX0_hurtsUntilStanding_37 : decode cX0_hurtsUntilStanding 37 = .ok (.aload_n 0, 1) := by decide +kernel
theorem dX0_hurtsUntilStanding_38 : decode cX0_hurtsUntilStanding 38 = .ok (.invokevirtual 141, 3) := by decide +kernel
theorem dX0_hurtsUntilStanding_41 : decode cX0_hurtsUntilStanding 41 = .ok (.iinc 4 1, 3) := by decide +kernel
theorem dX0_hurtsUntilStanding_44 : decode cX0_hurtsUntilStanding 44 = .ok (.goto (-21), 3) := by decide +kernel
theorem dX0_hurtsUntilStanding_47 : decode cX0_hurtsUntilStanding 47 = .ok (.aload_n 0, 1) := by decide +kernel
theorem dX0_hurtsUntilStanding_48 : decode cX0_hurtsUntilStanding 48 = .ok (.getfield 33, 3) := by decide +kernel
theorem dX0_hurtsUntilStanding_51 : decode cX0_hurtsUntilStanding 51 = .ok (.getfield 148, 3) := by decide +kernel
theorem dX0_hurtsUntilStanding_54 : decode cX0_hurtsUntilStanding 54 = .ok (.iload_n 3, 1) := by decide +kernel
theorem dX0_hurtsUntilStanding_55 : decode cX0_hurtsUntilStanding 55 = .ok (.isub, 1) := by decide +kernel
theorem dX0_hurtsUntilStanding_56 : decode cX0_hurtsUntilStanding 56 = .ok (.ireturn, 1) := by decide +kernel
theorem dX0_tick_0 : decode cX0_tick 0 = .ok (.aload_n 0, 1) := by decide +kernel
theorem dX0_tick_1 : decode cX0_tick 1 = .ok (.invokevirtual 151, 3) := by decide +kernel
theorem dX0_tick_4 : decode cX0_tick 4 = .ok (.istore_n 1, 1) := by decide +kernel
theorem dX0_tick_5 : decode cX0_tick 5 = .ok (.aload_n 0, 1) := by decide +kernel
theorem dX0_tick_6 : decode cX0_tick 6 = .ok (.invokevirtual 154, 3) := by decide +kernel
theorem dX0_tick_9 : decode cX0_tick 9 = .ok (.aload_n 0, 1) := by decide +kernel
theorem dX0_tick_10 : decode cX0_tick 10 = .ok (.invokevirtual 157, 3) := by decide +kernel
theorem dX0_tick_13 : decode cX0_tick 13 = .ok (.iload_n 1, 1) := by decide +kernel
theorem dX0_tick_14 : decode cX0_tick 14 = .ok (.ifCond .eq 29, 3) := by decide +kernel
theorem dX0_tick_17 : decode cX0_tick 17 = .ok (.aload_n 0, 1) := by decide +kernel
theorem dX0_tick_18 : decode cX0_tick 18 = .ok (.dup, 1) := by decide +kernel
theorem dX0_tick_19 : decode cX0_tick 19 = .ok (.getfield 57, 3) := by decide +kernel
theorem dX0_tick_22 : decode cX0_tick 22 = .ok (.iconst 1, 1) := by decide +kernel
theorem dX0_tick_23 : decode cX0_tick 23 = .ok (.iadd, 1) := by decide +kernel
theorem dX0_tick_24 : decode cX0_tick 24 = .ok (.putfield 57, 3) := by decide +kernel
theorem dX0_tick_27 : decode cX0_tick 27 = .ok (.aload_n 0, 1) := by decide +kernel
theorem dX0_tick_28 : decode cX0_tick 28 = .ok (.getfield 33, 3) := by decide +kernel
theorem dX0_tick_31 : decode cX0_tick 31 = .ok (.aload_n 0, 1) := by decide +kernel
theorem dX0_tick_32 : decode cX0_tick 32 = .ok (.getfield 18, 3) := by decide +kernel
theorem dX0_tick_35 : decode cX0_tick 35 = .ok (.iconst 2, 1) := by decide +kernel
theorem dX0_tick_36 : decode cX0_tick 36 = .ok (.iaload, 1) := by decide +kernel
theorem dX0_tick_37 : decode cX0_tick 37 = .ok (.invokevirtual 160, 3) := by decide +kernel
theorem dX0_tick_40 : decode cX0_tick 40 = .ok (.goto 10, 3) := by decide +kernel
theorem dX0_tick_43 : decode cX0_tick 43 = .ok (.aload_n 0, 1) := by decide +kernel
theorem dX0_tick_44 : decode cX0_tick 44 = .ok (.getfield 33, 3) := by decide +kernel
theorem dX0_tick_47 : decode cX0_tick 47 = .ok (.invokevirtual 164, 3) := by decide +kernel
theorem dX0_tick_50 : decode cX0_tick 50 = .ok (.aload_n 0, 1) := by decide +kernel
theorem dX0_tick_51 : decode cX0_tick 51 = .ok (.getfield 33, 3) := by decide +kernel
theorem dX0_tick_54 : decode cX0_tick 54 = .ok (.getfield 167, 3) := by decide +kernel
theorem dX0_tick_57 : decode cX0_tick 57 = .ok (.bipush (-6), 2) := by decide +kernel
theorem dX0_tick_59 : decode cX0_tick 59 = .ok (.if_icmp .ne 27, 3) := by decide +kernel
theorem dX0_tick_62 : decode cX0_tick 62 = .ok (.aload_n 0, 1) := by decide +kernel
theorem dX0_tick_63 : decode cX0_tick 63 = .ok (.invokevirtual 170, 3) := by decide +kernel
theorem dX0_tick_66 : decode cX0_tick 66 = .ok (.ifCond .ne 20, 3) := by decide +kernel
theorem dX0_tick_69 : decode cX0_tick 69 = .ok (.aload_n 0, 1) := by decide +kernel
theorem dX0_tick_70 : decode cX0_tick 70 = .ok (.getfield 33, 3) := by decide +kernel
theorem dX0_tick_73 : decode cX0_tick 73 = .ok (.aload_n 0, 1) := by decide +kernel
theorem dX0_tick_74 : decode cX0_tick 74 = .ok (.invokevirtual 173, 3) := by decide +kernel
theorem dX0_tick_77 : decode cX0_tick 77 = .ok (.aload_n 0, 1) := by decide +kernel
theorem dX0_tick_78 : decode cX0_tick 78 = .ok (.getfield 18, 3) := by decide +kernel
theorem dX0_tick_81 : decode cX0_tick 81 = .ok (.iconst 2, 1) := by decide +kernel
theorem dX0_tick_82 : decode cX0_tick 82 = .ok (.iaload, 1) := by decide +kernel
theorem dX0_tick_83 : decode cX0_tick 83 = .ok (.invokevirtual 176, 3) := by decide +kernel
theorem dX0_tick_86 : decode cX0_tick 86 = .ok (.aload_n 0, 1) := by decide +kernel
theorem dX0_tick_87 : decode cX0_tick 87 = .ok (.dup, 1) := by decide +kernel
theorem dX0_tick_88 : decode cX0_tick 88 = .ok (.getfield 54, 3) := by decide +kernel
theorem dX0_tick_91 : decode cX0_tick 91 = .ok (.iconst 1, 1) := by decide +kernel
theorem dX0_tick_92 : decode cX0_tick 92 = .ok (.iadd, 1) := by decide +kernel
theorem dX0_tick_93 : decode cX0_tick 93 = .ok (.putfield 54, 3) := by decide +kernel
theorem dX0_tick_96 : decode cX0_tick 96 = .ok (.return_, 1) := by decide +kernel
theorem dX0_moveBoards_0 : decode cX0_moveBoards 0 = .ok (.iconst 0, 1) := by decide +kernel
theorem dX0_moveBoards_1 : decode cX0_moveBoards 1 = .ok (.istore_n 1, 1) := by decide +kernel
theorem dX0_moveBoards_2 : decode cX0_moveBoards 2 = .ok (.iconst 0, 1) := by decide +kernel
theorem dX0_moveBoards_3 : decode cX0_moveBoards 3 = .ok (.istore_n 2, 1) := by decide +kernel
theorem dX0_moveBoards_4 : decode cX0_moveBoards 4 = .ok (.iload_n 2, 1) := by decide +kernel
theorem dX0_moveBoards_5 : decode cX0_moveBoards 5 = .ok (.iconst 5, 1) := by decide +kernel
theorem dX0_moveBoards_6 : decode cX0_moveBoards 6 = .ok (.if_icmp .ge 32, 3) := by decide +kernel
theorem dX0_moveBoards_9 : decode cX0_moveBoards 9 = .ok (.aload_n 0, 1) := by decide +kernel
theorem dX0_moveBoards_10 : decode cX0_moveBoards 10 = .ok (.aload_n 0, 1) := by decide +kernel
theorem dX0_moveBoards_11 : decode cX0_moveBoards 11 = .ok (.iload_n 2, 1) := by decide +kernel
theorem dX0_moveBoards_12 : decode cX0_moveBoards 12 = .ok (.invokevirtual 121, 3) := by decide +kernel
theorem dX0_moveBoards_15 : decode cX0_moveBoards 15 = .ok (.invokevirtual 83, 3) := by decide +kernel
theorem dX0_moveBoards_18 : decode cX0_moveBoards 18 = .ok (.astore_n 3, 1) := by decide +kernel
theorem dX0_moveBoards_19 : decode cX0_moveBoards 19 = .ok (.aload_n 3, 1) := by decide +kernel
theorem dX0_moveBoards_20 : decode cX0_moveBoards 20 = .ok (.ifnull 12, 3) := by decide +kernel
theorem dX0_moveBoards_23 : decode cX0_moveBoards 23 = .ok (.aload_n 3, 1) := by decide +kernel
theorem dX0_moveBoards_24 : decode cX0_moveBoards 24 = .ok (.invokevirtual 179, 3) := by decide +kernel
theorem dX0_moveBoards_27 : decode cX0_moveBoards 27 = .ok (.ifCond .eq 5, 3) := by decide +kernel
theorem dX0_moveBoards_30 : decode cX0_moveBoards 30 = .ok (.iconst 1, 1) := by decide +kernel
theorem dX0_moveBoards_31 : decode cX0_moveBoards 31 = .ok (.istore_n 1, 1) := by decide +kernel
theorem dX0_moveBoards_32 : decode cX0_moveBoards 32 = .ok (.iinc 2 1, 3) := by decide +kernel
theorem dX0_moveBoards_35 : decode cX0_moveBoards 35 = .ok (.goto (-31), 3) := by decide +kernel
theorem dX0_moveBoards_38 : decode cX0_moveBoards 38 = .ok (.iload_n 1, 1) := by decide +kernel
theorem dX0_moveBoards_39 : decode cX0_moveBoards 39 = .ok (.ireturn, 1) := by decide +kernel
theorem dX0_powerBoards_0 : decode cX0_powerBoards 0 = .ok (.iconst 0, 1) := by decide +kernel
theorem dX0_powerBoards_1 : decode cX0_powerBoards 1 = .ok (.istore_n 1, 1) := by decide +kernel
theorem dX0_powerBoards_2 : decode cX0_powerBoards 2 = .ok (.iload_n 1, 1) := by decide +kernel
theorem dX0_powerBoards_3 : decode cX0_powerBoards 3 = .ok (.iconst 5, 1) := by decide +kernel
theorem dX0_powerBoards_4 : decode cX0_powerBoards 4 = .ok (.if_icmp .ge 28, 3) := by decide +kernel
theorem dX0_powerBoards_7 : decode cX0_powerBoards 7 = .ok (.aload_n 0, 1) := by decide +kernel
theorem dX0_powerBoards_8 : decode cX0_powerBoards 8 = .ok (.aload_n 0, 1) := by decide +kernel
theorem dX0_powerBoards_9 : decode cX0_powerBoards 9 = .ok (.iload_n 1, 1) := by decide +kernel
theorem dX0_powerBoards_10 : decode cX0_powerBoards 10 = .ok (.invokevirtual 121, 3) := by decide +kernel
theorem dX0_powerBoards_13 : decode cX0_powerBoards 13 = .ok (.invokevirtual 83, 3) := by decide +kernel
theorem dX0_powerBoards_16 : decode cX0_powerBoards 16 = .ok (.astore_n 2, 1) := by decide +kernel
theorem dX0_powerBoards_17 : decode cX0_powerBoards 17 = .ok (.aload_n 2, 1) := by decide +kernel
theorem dX0_powerBoards_18 : decode cX0_powerBoards 18 = .ok (.ifnull 8, 3) := by decide +kernel
theorem dX0_powerBoards_21 : decode cX0_powerBoards 21 = .ok (.aload_n 0, 1) := by decide +kernel
theorem dX0_powerBoards_22 : decode cX0_powerBoards 22 = .ok (.aload_n 2, 1) := by decide +kernel
theorem dX0_powerBoards_23 : decode cX0_powerBoards 23 = .ok (.invokevirtual 182, 3) := by decide +kernel
theorem dX0_powerBoards_26 : decode cX0_powerBoards 26 = .ok (.iinc 1 1, 3) := by decide +kernel
theorem dX0_powerBoards_29 : decode cX0_powerBoards 29 = .ok (.goto (-27), 3) := by decide +kernel
theorem dX0_powerBoards_32 : decode cX0_powerBoards 32 = .ok (.return_, 1) := by decide +kernel
theorem dX0_powerBoard_0 : decode cX0_powerBoard 0 = .ok (.aload_n 1, 1) := by decide +kernel
theorem dX0_powerBoard_1 : decode cX0_powerBoard 1 = .ok (.bipush 8, 2) := by decide +kernel
theorem dX0_powerBoard_3 : decode cX0_powerBoard 3 = .ok (.invokevirtual 185, 3) := by decide +kernel
theorem dX0_powerBoard_6 : decode cX0_powerBoard 6 = .ok (.ifCond .ne 9, 3) := by decide +kernel
theorem dX0_powerBoard_9 : decode cX0_powerBoard 9 = .ok (.aload_n 1, 1) := by decide +kernel
theorem dX0_powerBoard_10 : decode cX0_powerBoard 10 = .ok (.iconst 0, 1) := by decide +kernel
theorem dX0_powerBoard_11 : decode cX0_powerBoard 11 = .ok (.putfield 73, 3) := by decide +kernel
theorem dX0_powerBoard_14 : decode cX0_powerBoard 14 = .ok (.return_, 1) := by decide +kernel
theorem dX0_powerBoard_15 : decode cX0_powerBoard 15 = .ok (.aload_n 1, 1) := by decide +kernel
theorem dX0_powerBoard_16 : decode cX0_powerBoard 16 = .ok (.getfield 73, 3) := by decide +kernel
theorem dX0_powerBoard_19 : decode cX0_powerBoard 19 = .ok (.istore_n 2, 1) := by decide +kernel
theorem dX0_powerBoard_20 : decode cX0_powerBoard 20 = .ok (.aload_n 1, 1) := by decide +kernel
theorem dX0_powerBoard_21 : decode cX0_powerBoard 21 = .ok (.bipush 100, 2) := by decide +kernel
theorem dX0_powerBoard_23 : decode cX0_powerBoard 23 = .ok (.iload_n 2, 1) := by decide +kernel
theorem dX0_powerBoard_24 : decode cX0_powerBoard 24 = .ok (.aload_n 0, 1) := by decide +kernel
theorem dX0_powerBoard_25 : decode cX0_powerBoard 25 = .ok (.getfield 18, 3) := by decide +kernel
theorem dX0_powerBoard_28 : decode cX0_powerBoard 28 = .ok (.iconst 1, 1) := by decide +kernel
theorem dX0_powerBoard_29 : decode cX0_powerBoard 29 = .ok (.iaload, 1) := by decide +kernel
theorem dX0_powerBoard_30 : decode cX0_powerBoard 30 = .ok (.iadd, 1) := by decide +kernel
theorem dX0_powerBoard_31 : decode cX0_powerBoard 31 = .ok (.invokestatic 188, 3) := by decide +kernel
theorem dX0_powerBoard_34 : decode cX0_powerBoard 34 = .ok (.putfield 73, 3) := by decide +kernel
theorem dX0_powerBoard_37 : decode cX0_powerBoard 37 = .ok (.aload_n 1, 1) := by decide +kernel
theorem dX0_powerBoard_38 : decode cX0_powerBoard 38 = .ok (.getfield 73, 3) := by decide +kernel
theorem dX0_powerBoard_41 : decode cX0_powerBoard 41 = .ok (.iload_n 2, 1) := by decide +kernel
theorem dX0_powerBoard_42 : decode cX0_powerBoard 42 = .ok (.if_icmp .le 21, 3) := by decide +kernel
theorem dX0_powerBoard_45 : decode cX0_powerBoard 45 = .ok (.aload_n 0, 1) := by decide +kernel
theorem dX0_powerBoard_46 : decode cX0_powerBoard 46 = .ok (.invokevirtual 193, 3) := by decide +kernel
theorem dX0_powerBoard_49 : decode cX0_powerBoard 49 = .ok (.aload_n 0, 1) := by decide +kernel
theorem dX0_powerBoard_50 : decode cX0_powerBoard 50 = .ok (.getfield 18, 3) := by decide +kernel
theorem dX0_powerBoard_53 : decode cX0_powerBoard 53 = .ok (.iconst 4, 1) := by decide +kernel
theorem dX0_powerBoard_54 : decode cX0_powerBoard 54 = .ok (.iaload, 1) := by decide +kernel
theorem dX0_powerBoard_55 : decode cX0_powerBoard 55 = .ok (.if_icmp .le 8, 3) := by decide +kernel
theorem dX0_powerBoard_58 : decode cX0_powerBoard 58 = .ok (.aload_n 1, 1) := by decide +kernel
theorem dX0_powerBoard_59 : decode cX0_powerBoard 59 = .ok (.iload_n 2, 1) := by decide +kernel
theorem dX0_powerBoard_60 : decode cX0_powerBoard 60 = .ok (.putfield 73, 3) := by decide +kernel
theorem dX0_powerBoard_63 : decode cX0_powerBoard 63 = .ok (.return_, 1) := by decide +kernel
theorem dX0_greetBoards_0 : decode cX0_greetBoards 0 = .ok (.iconst 0, 1) := by decide +kernel
theorem dX0_greetBoards_1 : decode cX0_greetBoards 1 = .ok (.istore_n 1, 1) := by decide +kernel
theorem dX0_greetBoards_2 : decode cX0_greetBoards 2 = .ok (.iload_n 1, 1) := by decide +kernel
theorem dX0_greetBoards_3 : decode cX0_greetBoards 3 = .ok (.aload_n 0, 1) := by decide +kernel
theorem dX0_greetBoards_4 : decode cX0_greetBoards 4 = .ok (.getfield 43, 3) := by decide +kernel
theorem dX0_greetBoards_7 : decode cX0_greetBoards 7 = .ok (.if_icmp .ge 70, 3) := by decide +kernel
theorem dX0_greetBoards_10 : decode cX0_greetBoards 10 = .ok (.aload_n 0, 1) := by decide +kernel
theorem dX0_greetBoards_11 : decode cX0_greetBoards 11 = .ok (.getfield 25, 3) := by decide +kernel
theorem dX0_greetBoards_14 : decode cX0_greetBoards 14 = .ok (.iload_n 1, 1) := by decide +kernel
theorem dX0_greetBoards_15 : decode cX0_greetBoards 15 = .ok (.aaload, 1) := by decide +kernel
theorem dX0_greetBoards_16 : decode cX0_greetBoards 16 = .ok (.bipush 20, 2) := by decide +kernel
theorem dX0_greetBoards_18 : decode cX0_greetBoards 18 = .ok (.invokevirtual 185, 3) := by decide +kernel
theorem dX0_greetBoards_21 : decode cX0_greetBoards 21 = .ok (.ifCond .eq 21, 3) := by decide +kernel
theorem dX0_greetBoards_24 : decode cX0_greetBoards 24 = .ok (.aload_n 0, 1) := by decide +kernel
theorem dX0_greetBoards_25 : decode cX0_greetBoards 25 = .ok (.getfield 25, 3) := by decide +kernel
theorem dX0_greetBoards_28 : decode cX0_greetBoards 28 = .ok (.iload_n 1, 1) := by decide +kernel
theorem dX0_greetBoards_29 : decode cX0_greetBoards 29 = .ok (.aaload, 1) := by decide +kernel
theorem dX0_greetBoards_30 : decode cX0_greetBoards 30 = .ok (.aload_n 0, 1) := by decide +kernel
theorem dX0_greetBoards_31 : decode cX0_greetBoards 31 = .ok (.getfield 18, 3) := by decide +kernel
theorem dX0_greetBoards_34 : decode cX0_greetBoards 34 = .ok (.iconst 3, 1) := by decide +kernel
theorem dX0_greetBoards_35 : decode cX0_greetBoards 35 = .ok (.iaload, 1) := by decide +kernel
theorem dX0_greetBoards_36 : decode cX0_greetBoards 36 = .ok (.invokevirtual 196, 3) := by decide +kernel
theorem dX0_greetBoards_39 : decode cX0_greetBoards 39 = .ok (.goto 32, 3) := by decide +kernel
theorem dX0_greetBoards_42 : decode cX0_greetBoards 42 = .ok (.aload_n 0, 1) := by decide +kernel
theorem dX0_greetBoards_43 : decode cX0_greetBoards 43 = .ok (.getfield 25, 3) := by decide +kernel
theorem dX0_greetBoards_46 : decode cX0_greetBoards 46 = .ok (.iload_n 1, 1) := by decide +kernel
theorem dX0_greetBoards_47 : decode cX0_greetBoards 47 = .ok (.aaload, 1) := by decide +kernel
theorem dX0_greetBoards_48 : decode cX0_greetBoards 48 = .ok (.getfield 63, 3) := by decide +kernel
theorem dX0_greetBoards_51 : decode cX0_greetBoards 51 = .ok (.ifCond .eq 11, 3) := by decide +kernel
theorem dX0_greetBoards_54 : decode cX0_greetBoards 54 = .ok (.aload_n 0, 1) := by decide +kernel
theorem dX0_greetBoards_55 : decode cX0_greetBoards 55 = .ok (.getfield 33, 3) := by decide +kernel
theorem dX0_greetBoards_58 : decode cX0_greetBoards 58 = .ok (.iload_n 1, 1) := by decide +kernel
theorem dX0_greetBoards_59 : decode cX0_greetBoards 59 = .ok (.invokevirtual 199, 3) := by decide +kernel
theorem dX0_greetBoards_62 : decode cX0_greetBoards 62 = .ok (.aload_n 0, 1) := by decide +kernel
theorem dX0_greetBoards_63 : decode cX0_greetBoards 63 = .ok (.getfield 25, 3) := by decide +kernel
theorem dX0_greetBoards_66 : decode cX0_greetBoards 66 = .ok (.iload_n 1, 1) := by decide +kernel
theorem dX0_greetBoards_67 : decode cX0_greetBoards 67 = .ok (.aaload, 1) := by decide +kernel
theorem dX0_greetBoards_68 : decode cX0_greetBoards 68 = .ok (.invokevirtual 202, 3) := by decide +kernel
theorem dX0_greetBoards_71 : decode cX0_greetBoards 71 = .ok (.iinc 1 1, 3) := by decide +kernel
theorem dX0_greetBoards_74 : decode cX0_greetBoards 74 = .ok (.goto (-72), 3) := by decide +kernel
theorem dX0_greetBoards_77 : decode cX0_greetBoards 77 = .ok (.return_, 1) := by decide +kernel
theorem dX1_init_0 : decode cX1_init 0 = .ok (.aload_n 0, 1) := by decide +kernel
theorem dX1_init_1 : decode cX1_init 1 = .ok (.invokespecial 3, 3) := by decide +kernel
theorem dX1_init_4 : decode cX1_init 4 = .ok (.return_, 1) := by decide +kernel
theorem dX1_begin_0 : decode cX1_begin 0 = .ok (.aload_n 0, 1) := by decide +kernel
theorem dX1_begin_1 : decode cX1_begin 1 = .ok (.iload_n 1, 1) := by decide +kernel
theorem dX1_begin_2 : decode cX1_begin 2 = .ok (.putfield 9, 3) := by decide +kernel
theorem dX1_begin_5 : decode cX1_begin 5 = .ok (.aload_n 0, 1) := by decide +kernel
theorem dX1_begin_6 : decode cX1_begin 6 = .ok (.iload_n 2, 1) := by decide +kernel
theorem dX1_begin_7 : decode cX1_begin 7 = .ok (.putfield 15, 3) := by decide +kernel
theorem dX1_begin_10 : decode cX1_begin 10 = .ok (.aload_n 0, 1) := by decide +kernel
theorem dX1_begin_11 : decode cX1_begin 11 = .ok (.bipush (-6), 2) := by decide +kernel
theorem dX1_begin_13 : decode cX1_begin 13 = .ok (.putfield 18, 3) := by decide +kernel
theorem dX1_begin_16 : decode cX1_begin 16 = .ok (.aload_n 0, 1) := by decide +kernel
theorem dX1_begin_17 : decode cX1_begin 17 = .ok (.iconst 0, 1) := by decide +kernel
theorem dX1_begin_18 : decode cX1_begin 18 = .ok (.putfield 21, 3) := by decide +kernel
theorem dX1_begin_21 : decode cX1_begin 21 = .ok (.aload_n 0, 1) := by decide +kernel
theorem dX1_begin_22 : decode cX1_begin 22 = .ok (.iconst 0, 1) := by decide +kernel
theorem dX1_begin_23 : decode cX1_begin 23 = .ok (.putfield 24, 3) := by decide +kernel
theorem dX1_begin_26 : decode cX1_begin 26 = .ok (.aload_n 0, 1) := by decide +kernel
theorem dX1_begin_27 : decode cX1_begin 27 = .ok (.iconst 0, 1) := by decide +kernel
theorem dX1_begin_28 : decode cX1_begin 28 = .ok (.putfield 27, 3) := by decide +kernel
theorem dX1_begin_31 : decode cX1_begin 31 = .ok (.aload_n 0, 1) := by decide +kernel
theorem dX1_begin_32 : decode cX1_begin 32 = .ok (.iconst 0, 1) := by decide +kernel
theorem dX1_begin_33 : decode cX1_begin 33 = .ok (.putfield 30, 3) := by decide +kernel
theorem dX1_begin_36 : decode cX1_begin 36 = .ok (.aload_n 0, 1) := by decide +kernel
theorem dX1_begin_37 : decode cX1_begin 37 = .ok (.iconst 0, 1) := by decide +kernel
theorem dX1_begin_38 : decode cX1_begin 38 = .ok (.putfield 34, 3) := by decide +kernel
theorem dX1_begin_41 : decode cX1_begin 41 = .ok (.aload_n 0, 1) := by decide +kernel
theorem dX1_begin_42 : decode cX1_begin 42 = .ok (.iconst 0, 1) := by decide +kernel
theorem dX1_begin_43 : decode cX1_begin 43 = .ok (.putfield 37, 3) := by decide +kernel
theorem dX1_begin_46 : decode cX1_begin 46 = .ok (.aload_n 0, 1) := by decide +kernel
theorem dX1_begin_47 : decode cX1_begin 47 = .ok (.iconst 0, 1) := by decide +kernel
theorem dX1_begin_48 : decode cX1_begin 48 = .ok (.putfield 40, 3) := by decide +kernel
theorem dX1_begin_51 : decode cX1_begin 51 = .ok (.return_, 1) := by decide +kernel
theorem dX1_copyFrom_0 : decode cX1_copyFrom 0 = .ok (.aload_n 0, 1) := by decide +kernel
theorem dX1_copyFrom_1 : decode cX1_copyFrom 1 = .ok (.aload_n 1, 1) := by decide +kernel
theorem dX1_copyFrom_2 : decode cX1_copyFrom 2 = .ok (.getfield 9, 3) := by decide +kernel
theorem dX1_copyFrom_5 : decode cX1_copyFrom 5 = .ok (.putfield 9, 3) := by decide +kernel
theorem dX1_copyFrom_8 : decode cX1_copyFrom 8 = .ok (.aload_n 0, 1) := by decide +kernel
theorem dX1_copyFrom_9 : decode cX1_copyFrom 9 = .ok (.aload_n 1, 1) := by decide +kernel
theorem dX1_copyFrom_10 : decode cX1_copyFrom 10 = .ok (.getfield 15, 3) := by decide +kernel
theorem dX1_copyFrom_13 : decode cX1_copyFrom 13 = .ok (.putfield 15, 3) := by decide +kernel
theorem dX1_copyFrom_16 : decode cX1_copyFrom 16 = .ok (.aload_n 0, 1) := by decide +kernel
theorem dX1_copyFrom_17 : decode cX1_copyFrom 17 = .ok (.aload_n 1, 1) := by decide +kernel
theorem dX1_copyFrom_18 : decode cX1_copyFrom 18 = .ok (.getfield 18, 3) := by decide +kernel
theorem dX1_copyFrom_21 : decode cX1_copyFrom 21 = .ok (.putfield 18, 3) := by decide +kernel
theorem dX1_copyFrom_24 : decode cX1_copyFrom 24 = .ok (.aload_n 0, 1) := by decide +kernel
theorem dX1_copyFrom_25 : decode cX1_copyFrom 25 = .ok (.aload_n 1, 1) := by decide +kernel
theorem dX1_copyFrom_26 : decode cX1_copyFrom 26 = .ok (.getfield 21, 3) := by decide +kernel
theorem dX1_copyFrom_29 : decode cX1_copyFrom 29 = .ok (.putfield 21, 3) := by decide +kernel
theorem dX1_copyFrom_32 : decode cX1_copyFrom 32 = .ok (.aload_n 0, 1) := by decide +kernel
theorem dX1_copyFrom_33 : decode cX1_copyFrom 33 = .ok (.aload_n 1, 1) := by decide +kernel
theorem dX1_copyFrom_34 : decode cX1_copyFrom 34 = .ok (.getfield 24, 3) := by decide +kernel
theorem dX1_copyFrom_37 : decode cX1_copyFrom 37 = .ok (.putfield 24, 3) := by decide +kernel
theorem dX1_copyFrom_40 : decode cX1_copyFrom 40 = .ok (.aload_n 0, 1) := by decide +kernel
theorem dX1_copyFrom_41 : decode cX1_copyFrom 41 = .ok (.aload_n 1, 1) := by decide +kernel
theorem dX1_copyFrom_42 : decode cX1_copyFrom 42 = .ok (.getfield 27, 3) := by decide +kernel
theorem dX1_copyFrom_45 : decode cX1_copyFrom 45 = .ok (.putfield 27, 3) := by decide +kernel
theorem dX1_copyFrom_48 : decode cX1_copyFrom 48 = .ok (.aload_n 0, 1) := by decide +kernel
theorem dX1_copyFrom_49 : decode cX1_copyFrom 49 = .ok (.aload_n 1, 1) := by decide +kernel
theorem dX1_copyFrom_50 : decode cX1_copyFrom 50 = .ok (.getfield 30, 3) := by decide +kernel
theorem dX1_copyFrom_53 : decode cX1_copyFrom 53 = .ok (.putfield 30, 3) := by decide +kernel
theorem dX1_copyFrom_56 : decode cX1_copyFrom 56 = .ok (.aload_n 0, 1) := by decide +kernel
theorem dX1_copyFrom_57 : decode cX1_copyFrom 57 = .ok (.aload_n 1, 1) := by decide +kernel
theorem dX1_copyFrom_58 : decode cX1_copyFrom 58 = .ok (.getfield 34, 3) := by decide +kernel
theorem dX1_copyFrom_61 : decode cX1_copyFrom 61 = .ok (.putfield 34, 3) := by decide +kernel
theorem dX1_copyFrom_64 : decode cX1_copyFrom 64 = .ok (.aload_n 0, 1) := by decide +kernel
theorem dX1_copyFrom_65 : decode cX1_copyFrom 65 = .ok (.aload_n 1, 1) := by decide +kernel
theorem dX1_copyFrom_66 : decode cX1_copyFrom 66 = .ok (.getfield 37, 3) := by decide +kernel
theorem dX1_copyFrom_69 : decode cX1_copyFrom 69 = .ok (.putfield 37, 3) := by decide +kernel
theorem dX1_copyFrom_72 : decode cX1_copyFrom 72 = .ok (.aload_n 0, 1) := by decide +kernel
theorem dX1_copyFrom_73 : decode cX1_copyFrom 73 = .ok (.aload_n 1, 1) := by decide +kernel
theorem dX1_copyFrom_74 : decode cX1_copyFrom 74 = .ok (.getfield 40, 3) := by decide +kernel
theorem dX1_copyFrom_77 : decode cX1_copyFrom 77 = .ok (.putfield 40, 3) := by decide +kernel
theorem dX1_copyFrom_80 : decode cX1_copyFrom 80 = .ok (.return_, 1) := by decide +kernel
theorem dX1_touches_0 : decode cX1_touches 0 = .ok (.aload_n 0, 1) := by decide +kernel
theorem dX1_touches_1 : decode cX1_touches 1 = .ok (.getfield 21, 3) := by decide +kernel
theorem dX1_touches_4 : decode cX1_touches 4 = .ok (.iload_n 1, 1) := by decide +kernel
theorem dX1_touches_5 : decode cX1_touches 5 = .ok (.if_icmp .lt 7, 3) := by decide +kernel
theorem dX1_touches_8 : decode cX1_touches 8 = .ok (.iconst 1, 1) := by decide +kernel
theorem dX1_touches_9 : decode cX1_touches 9 = .ok (.goto 4, 3) := by decide +kernel
theorem dX1_touches_12 : decode cX1_touches 12 = .ok (.iconst 0, 1) := by decide +kernel
theorem dX1_touches_13 : decode cX1_touches 13 = .ok (.ireturn, 1) := by decide +kernel
theorem dX1_holdsBus_0 : decode cX1_holdsBus 0 = .ok (.aload_n 0, 1) := by decide +kernel
theorem dX1_holdsBus_1 : decode cX1_holdsBus 1 = .ok (.getfield 24, 3) := by decide +kernel
theorem dX1_holdsBus_4 : decode cX1_holdsBus 4 = .ok (.ifCond .le 27, 3) := by decide +kernel
theorem dX1_holdsBus_7 : decode cX1_holdsBus 7 = .ok (.aload_n 0, 1) := by decide +kernel
theorem dX1_holdsBus_8 : decode cX1_holdsBus 8 = .ok (.bipush 8, 2) := by decide +kernel
theorem dX1_holdsBus_10 : decode cX1_holdsBus 10 = .ok (.invokevirtual 43, 3) := by decide +kernel
theorem dX1_holdsBus_13 : decode cX1_holdsBus 13 = .ok (.ifCond .eq 16, 3) := by decide +kernel
theorem dX1_holdsBus_16 : decode cX1_holdsBus 16 = .ok (.aload_n 0, 1) := by decide +kernel
theorem dX1_holdsBus_17 : decode cX1_holdsBus 17 = .ok (.bipush 14, 2) := by decide +kernel
theorem dX1_holdsBus_19 : decode cX1_holdsBus 19 = .ok (.invokevirtual 43, 3) := by decide +kernel
theorem dX1_holdsBus_22 : decode cX1_holdsBus 22 = .ok (.ifCond .ne 7, 3) := by decide +kernel
theorem dX1_holdsBus_25 : decode cX1_holdsBus 25 = .ok (.iconst 1, 1) := by decide +kernel
theorem dX1_holdsBus_26 : decode cX1_holdsBus 26 = .ok (.goto 4, 3) := by decide +kernel
theorem dX1_holdsBus_29 : decode cX1_holdsBus 29 = .ok (.iconst 0, 1) := by decide +kernel
theorem dX1_holdsBus_30 : decode cX1_holdsBus 30 = .ok (.ireturn, 1) := by decide +kernel
theorem dX1_holdsBus_31 : decode cX1_holdsBus 31 = .ok (.aload_n 0, 1) := by decide +kernel
theorem dX1_holdsBus_32 : decode cX1_holdsBus 32 = .ok (.getfield 24, 3) := by decide +kernel
theorem dX1_holdsBus_35 : decode cX1_holdsBus 35 = .ok (.ifCond .ge 16, 3) := by decide +kernel
theorem dX1_holdsBus_38 : decode cX1_holdsBus 38 = .ok (.aload_n 0, 1) := by decide +kernel
theorem dX1_holdsBus_39 : decode cX1_holdsBus 39 = .ok (.bipush 14, 2) := by decide +kernel
theorem dX1_holdsBus_41 : decode cX1_holdsBus 41 = .ok (.invokevirtual 43, 3) := by decide +kernel
theorem dX1_holdsBus_44 : decode cX1_holdsBus 44 = .ok (.ifCond .eq 7, 3) := by decide +kernel
theorem dX1_holdsBus_47 : decode cX1_holdsBus 47 = .ok (.iconst 1, 1) := by decide +kernel
theorem dX1_holdsBus_48 : decode cX1_holdsBus 48 = .ok (.goto 4, 3) := by decide +kernel
theorem dX1_holdsBus_51 : decode cX1_holdsBus 51 = .ok (.iconst 0, 1) := by decide +kernel
theorem dX1_holdsBus_52 : decode cX1_holdsBus 52 = .ok (.ireturn, 1) := by decide +kernel
theorem dX1_move_0 : decode cX1_move 0 = .ok (.aload_n 0, 1) := by decide +kernel
theorem dX1_move_1 : decode cX1_move 1 = .ok (.bipush 14, 2) := by decide +kernel
theorem dX1_move_3 : decode cX1_move 3 = .ok (.invokevirtual 43, 3) := by decide +kernel
theorem dX1_move_6 : decode cX1_move 6 = .ok (.istore_n 1, 1) := by decide +kernel
theorem dX1_move_7 : decode cX1_move 7 = .ok (.aload_n 0, 1) := by decide +kernel
theorem dX1_move_8 : decode cX1_move 8 = .ok (.iconst 0, 1) := by decide +kernel
theorem dX1_move_9 : decode cX1_move 9 = .ok (.bipush 24, 2) := by decide +kernel
theorem dX1_move_11 : decode cX1_move 11 = .ok (.aload_n 0, 1) := by decide +kernel
theorem dX1_move_12 : decode cX1_move 12 = .ok (.getfield 21, 3) := by decide +kernel
theorem dX1_move_15 : decode cX1_move 15 = .ok (.aload_n 0, 1) := by decide +kernel
theorem dX1_move_16 : decode cX1_move 16 = .ok (.getfield 24, 3) := by decide +kernel
theorem dX1_move_19 : decode cX1_move 19 = .ok (.iadd, 1) := by decide +kernel
theorem dX1_move_20 : decode cX1_move 20 = .ok (.invokestatic 47, 3) := by decide +kernel
theorem dX1_move_23 : decode cX1_move 23 = .ok (.invokestatic 53, 3) := by decide +kernel
theorem dX1_move_26 : decode cX1_move 26 = .ok (.putfield 21, 3) := by decide +kernel
theorem dX1_move_29 : decode cX1_move 29 = .ok (.aload_n 0, 1) := by decide +kernel
theorem dX1_move_30 : decode cX1_move 30 = .ok (.getfield 24, 3) := by decide +kernel
theorem dX1_move_33 : decode cX1_move 33 = .ok (.ifCond .le 17, 3) := by decide +kernel
theorem dX1_move_36 : decode cX1_move 36 = .ok (.aload_n 0, 1) := by decide +kernel
theorem dX1_move_37 : decode cX1_move 37 = .ok (.getfield 21, 3) := by decide +kernel
theorem dX1_move_40 : decode cX1_move 40 = .ok (.bipush 24, 2) := by decide +kernel
theorem dX1_move_42 : decode cX1_move 42 = .ok (.if_icmp .ne 8, 3) := by decide +kernel
theorem dX1_move_45 : decode cX1_move 45 = .ok (.aload_n 0, 1) := by decide +kernel
theorem dX1_move_46 : decode cX1_move 46 = .ok (.iconst 0, 1) := by decide +kernel
theorem dX1_move_47 : decode cX1_move 47 = .ok (.putfield 24, 3) := by decide +kernel
theorem dX1_move_50 : decode cX1_move 50 = .ok (.aload_n 0, 1) := by decide +kernel
theorem dX1_move_51 : decode cX1_move 51 = .ok (.getfield 24, 3) := by decide +kernel
theorem dX1_move_54 : decode cX1_move 54 = .ok (.ifCond .ge 14, 3) := by decide +kernel
theorem dX1_move_57 : decode cX1_move 57 = .ok (.aload_n 0, 1) := by decide +kernel
theorem dX1_move_58 : decode cX1_move 58 = .ok (.getfield 21, 3) := by decide +kernel
theorem dX1_move_61 : decode cX1_move 61 = .ok (.ifCond .ne 7, 3) := by decide +kernel
theorem dX1_move_64 : decode cX1_move 64 = .ok (.aload_n 0, 1) := by decide +kernel
theorem dX1_move_65 : decode cX1_move 65 = .ok (.invokevirtual 56, 3) := by decide +kernel
theorem dX1_move_68 : decode cX1_move 68 = .ok (.aload_n 0, 1) := by decide +kernel
theorem dX1_move_69 : decode cX1_move 69 = .ok (.bipush 14, 2) := by decide +kernel
theorem dX1_move_71 : decode cX1_move 71 = .ok (.invokevirtual 43, 3) := by decide +kernel
theorem dX1_move_74 : decode cX1_move 74 = .ok (.iload_n 1, 1) := by decide +kernel
theorem dX1_move_75 : decode cX1_move 75 = .ok (.if_icmp .eq 7, 3) := by decide +kernel
theorem dX1_move_78 : decode cX1_move 78 = .ok (.iconst 1, 1) := by decide +kernel
theorem dX1_move_79 : decode cX1_move 79 = .ok (.goto 4, 3) := by decide +kernel
theorem dX1_move_82 : decode cX1_move 82 = .ok (.iconst 0, 1) := by decide +kernel
theorem dX1_move_83 : decode cX1_move 83 = .ok (.ireturn, 1) := by decide +kernel
theorem dX1_leaveSlot_0 : decode cX1_leaveSlot 0 = .ok (.aload_n 0, 1) := by decide +kernel
theorem dX1_leaveSlot_1 : decode cX1_leaveSlot 1 = .ok (.bipush (-6), 2) := by decide +kernel
theorem dX1_leaveSlot_3 : decode cX1_leaveSlot 3 = .ok (.putfield 18, 3) := by decide +kernel
theorem dX1_leaveSlot_6 : decode cX1_leaveSlot 6 = .ok (.aload_n 0, 1) := by decide +kernel
theorem dX1_leaveSlot_7 : decode cX1_leaveSlot 7 = .ok (.iconst 0, 1) := by decide +kernel
theorem dX1_leaveSlot_8 : decode cX1_leaveSlot 8 = .ok (.putfield 24, 3) := by decide +kernel
theorem dX1_leaveSlot_11 : decode cX1_leaveSlot 11 = .ok (.aload_n 0, 1) := by decide +kernel
theorem dX1_leaveSlot_12 : decode cX1_leaveSlot 12 = .ok (.iconst 0, 1) := by decide +kernel
theorem dX1_leaveSlot_13 : decode cX1_leaveSlot 13 = .ok (.putfield 27, 3) := by decide +kernel
theorem dX1_leaveSlot_16 : decode cX1_leaveSlot 16 = .ok (.return_, 1) := by decide +kernel
theorem dX1_greetForTick_0 : decode cX1_greetForTick 0 = .ok (.aload_n 0, 1) := by decide +kernel
theorem dX1_greetForTick_1 : decode cX1_greetForTick 1 = .ok (.getfield 30, 3) := by decide +kernel
theorem dX1_greetForTick_4 : decode cX1_greetForTick 4 = .ok (.ifCond .ne 12, 3) := by decide +kernel
theorem dX1_greetForTick_7 : decode cX1_greetForTick 7 = .ok (.aload_n 0, 1) := by decide +kernel
theorem dX1_greetForTick_8 : decode cX1_greetForTick 8 = .ok (.getfield 27, 3) := by decide +kernel
theorem dX1_greetForTick_11 : decode cX1_greetForTick 11 = .ok (.bipush 100, 2) := by decide +kernel
theorem dX1_greetForTick_13 : decode cX1_greetForTick 13 = .ok (.if_icmp .ge 4, 3) := by decide +kernel
theorem dX1_greetForTick_16 : decode cX1_greetForTick 16 = .ok (.return_, 1) := by decide +kernel
theorem dX1_greetForTick_17 : decode cX1_greetForTick 17 = .ok (.aload_n 0, 1) := by decide +kernel
theorem dX1_greetForTick_18 : decode cX1_greetForTick 18 = .ok (.dup, 1) := by decide +kernel
theorem dX1_greetForTick_19 : decode cX1_greetForTick 19 = .ok (.getfield 37, 3) := by decide +kernel
theorem dX1_greetForTick_22 : decode cX1_greetForTick 22 = .ok (.iconst 1, 1) := by decide +kernel
theorem dX1_greetForTick_23 : decode cX1_greetForTick 23 = .ok (.iadd, 1) := by decide +kernel
theorem dX1_greetForTick_24 : decode cX1_greetForTick 24 = .ok (.putfield 37, 3) := by decide +kernel
theorem dX1_greetForTick_27 : decode cX1_greetForTick 27 = .ok (.aload_n 0, 1) := by decide +kernel
theorem dX1_greetForTick_28 : decode cX1_greetForTick 28 = .ok (.getfield 37, 3) := by decide +kernel
theorem dX1_greetForTick_31 : decode cX1_greetForTick 31 = .ok (.iload_n 1, 1) := by decide +kernel
theorem dX1_greetForTick_32 : decode cX1_greetForTick 32 = .ok (.if_icmp .lt 13, 3) := by decide +kernel
theorem dX1_greetForTick_35 : decode cX1_greetForTick 35 = .ok (.aload_n 0, 1) := by decide +kernel
theorem dX1_greetForTick_36 : decode cX1_greetForTick 36 = .ok (.iconst 1, 1) := by decide +kernel
theorem dX1_greetForTick_37 : decode cX1_greetForTick 37 = .ok (.putfield 30, 3) := by decide +kernel
theorem dX1_greetForTick_40 : decode cX1_greetForTick 40 = .ok (.aload_n 0, 1) := by decide +kernel
theorem dX1_greetForTick_41 : decode cX1_greetForTick 41 = .ok (.iconst 0, 1) := by decide +kernel
theorem dX1_greetForTick_42 : decode cX1_greetForTick 42 = .ok (.putfield 37, 3) := by decide +kernel
theorem dX1_greetForTick_45 : decode cX1_greetForTick 45 = .ok (.return_, 1) := by decide +kernel
theorem dX1_becomeUnknown_0 : decode cX1_becomeUnknown 0 = .ok (.aload_n 0, 1) := by decide +kernel
theorem dX1_becomeUnknown_1 : decode cX1_becomeUnknown 1 = .ok (.getfield 30, 3) := by decide +kernel
theorem dX1_becomeUnknown_4 : decode cX1_becomeUnknown 4 = .ok (.ifCond .eq 20, 3) := by decide +kernel
theorem dX1_becomeUnknown_7 : decode cX1_becomeUnknown 7 = .ok (.aload_n 0, 1) := by decide +kernel
theorem dX1_becomeUnknown_8 : decode cX1_becomeUnknown 8 = .ok (.getfield 34, 3) := by decide +kernel
theorem dX1_becomeUnknown_11 : decode cX1_becomeUnknown 11 = .ok (.ifCond .ne 13, 3) := by decide +kernel
theorem dX1_becomeUnknown_14 : decode cX1_becomeUnknown 14 = .ok (.aload_n 0, 1) := by decide +kernel
theorem dX1_becomeUnknown_15 : decode cX1_becomeUnknown 15 = .ok (.dup, 1) := by decide +kernel
theorem dX1_becomeUnknown_16 : decode cX1_becomeUnknown 16 = .ok (.getfield 40, 3) := by decide +kernel
theorem dX1_becomeUnknown_19 : decode cX1_becomeUnknown 19 = .ok (.iconst 1, 1) := by decide +kernel
theorem dX1_becomeUnknown_20 : decode cX1_becomeUnknown 20 = .ok (.iadd, 1) := by decide +kernel
theorem dX1_becomeUnknown_21 : decode cX1_becomeUnknown 21 = .ok (.putfield 40, 3) := by decide +kernel
theorem dX1_becomeUnknown_24 : decode cX1_becomeUnknown 24 = .ok (.aload_n 0, 1) := by decide +kernel
theorem dX1_becomeUnknown_25 : decode cX1_becomeUnknown 25 = .ok (.iconst 0, 1) := by decide +kernel
theorem dX1_becomeUnknown_26 : decode cX1_becomeUnknown 26 = .ok (.putfield 30, 3) := by decide +kernel
theorem dX1_becomeUnknown_29 : decode cX1_becomeUnknown 29 = .ok (.aload_n 0, 1) := by decide +kernel
theorem dX1_becomeUnknown_30 : decode cX1_becomeUnknown 30 = .ok (.iconst 0, 1) := by decide +kernel
theorem dX1_becomeUnknown_31 : decode cX1_becomeUnknown 31 = .ok (.putfield 34, 3) := by decide +kernel
theorem dX1_becomeUnknown_34 : decode cX1_becomeUnknown 34 = .ok (.aload_n 0, 1) := by decide +kernel
theorem dX1_becomeUnknown_35 : decode cX1_becomeUnknown 35 = .ok (.iconst 0, 1) := by decide +kernel
theorem dX1_becomeUnknown_36 : decode cX1_becomeUnknown 36 = .ok (.putfield 37, 3) := by decide +kernel
theorem dX1_becomeUnknown_39 : decode cX1_becomeUnknown 39 = .ok (.return_, 1) := by decide +kernel
theorem dX2_init_0 : decode cX2_init 0 = .ok (.aload_n 0, 1) := by decide +kernel
theorem dX2_init_1 : decode cX2_init 1 = .ok (.invokespecial 3, 3) := by decide +kernel
theorem dX2_init_4 : decode cX2_init 4 = .ok (.aload_n 0, 1) := by decide +kernel
theorem dX2_init_5 : decode cX2_init 5 = .ok (.sipush 200, 3) := by decide +kernel
theorem dX2_init_8 : decode cX2_init 8 = .ok (.newarray .int, 2) := by decide +kernel
theorem dX2_init_10 : decode cX2_init 10 = .ok (.putfield 9, 3) := by decide +kernel
theorem dX2_init_13 : decode cX2_init 13 = .ok (.aload_n 0, 1) := by decide +kernel
theorem dX2_init_14 : decode cX2_init 14 = .ok (.sipush 200, 3) := by decide +kernel
theorem dX2_init_17 : decode cX2_init 17 = .ok (.newarray .int, 2) := by decide +kernel
theorem dX2_init_19 : decode cX2_init 19 = .ok (.putfield 15, 3) := by decide +kernel
theorem dX2_init_22 : decode cX2_init 22 = .ok (.aload_n 0, 1) := by decide +kernel
theorem dX2_init_23 : decode cX2_init 23 = .ok (.sipush 200, 3) := by decide +kernel
theorem dX2_init_26 : decode cX2_init 26 = .ok (.newarray .int, 2) := by decide +kernel
theorem dX2_init_28 : decode cX2_init 28 = .ok (.putfield 18, 3) := by decide +kernel
theorem dX2_init_31 : decode cX2_init 31 = .ok (.aload_n 0, 1) := by decide +kernel
theorem dX2_init_32 : decode cX2_init 32 = .ok (.sipush 200, 3) := by decide +kernel
theorem dX2_init_35 : decode cX2_init 35 = .ok (.newarray .int, 2) := by decide +kernel
theorem dX2_init_37 : decode cX2_init 37 = .ok (.putfield 21, 3) := by decide +kernel
theorem dX2_init_40 : decode cX2_init 40 = .ok (.aload_n 0, 1) := by decide +kernel
theorem dX2_init_41 : decode cX2_init 41 = .ok (.bipush 10, 2) := by decide +kernel
theorem dX2_init_43 : decode cX2_init 43 = .ok (.newarray .int, 2) := by decide +kernel
theorem dX2_init_45 : decode cX2_init 45 = .ok (.putfield 24, 3) := by decide +kernel
theorem dX2_init_48 : decode cX2_init 48 = .ok (.aload_n 0, 1) := by decide +kernel
theorem dX2_init_49 : decode cX2_init 49 = .ok (.bipush (-6), 2) := by decide +kernel
theorem dX2_init_51 : decode cX2_init 51 = .ok (.putfield 27, 3) := by decide +kernel
theorem dX2_init_54 : decode cX2_init 54 = .ok (.return_, 1) := by decide +kernel
theorem dX2_copyFrom_0 : decode cX2_copyFrom 0 = .ok (.aload_n 0, 1) := by decide +kernel
theorem dX2_copyFrom_1 : decode cX2_copyFrom 1 = .ok (.aload_n 1, 1) := by decide +kernel
theorem dX2_copyFrom_2 : decode cX2_copyFrom 2 = .ok (.getfield 31, 3) := by decide +kernel
theorem dX2_copyFrom_5 : decode cX2_copyFrom 5 = .ok (.putfield 31, 3) := by decide +kernel
theorem dX2_copyFrom_8 : decode cX2_copyFrom 8 = .ok (.aload_n 1, 1) := by decide +kernel
theorem dX2_copyFrom_9 : decode cX2_copyFrom 9 = .ok (.getfield 9, 3) := by decide +kernel
theorem dX2_copyFrom_12 : decode cX2_copyFrom 12 = .ok (.iconst 0, 1) := by decide +kernel
theorem dX2_copyFrom_13 : decode cX2_copyFrom 13 = .ok (.aload_n 0, 1) := by decide +kernel
theorem dX2_copyFrom_14 : decode cX2_copyFrom 14 = .ok (.getfield 9, 3) := by decide +kernel
theorem dX2_copyFrom_17 : decode cX2_copyFrom 17 = .ok (.iconst 0, 1) := by decide +kernel
theorem dX2_copyFrom_18 : decode cX2_copyFrom 18 = .ok (.aload_n 0, 1) := by decide +kernel
theorem dX2_copyFrom_19 : decode cX2_copyFrom 19 = .ok (.getfield 31, 3) := by decide +kernel
theorem dX2_copyFrom_22 : decode cX2_copyFrom 22 = .ok (.invokestatic 34, 3) := by decide +kernel
theorem dX2_copyFrom_25 : decode cX2_copyFrom 25 = .ok (.aload_n 1, 1) := by decide +kernel
theorem dX2_copyFrom_26 : decode cX2_copyFrom 26 = .ok (.getfield 15, 3) := by decide +kernel
theorem dX2_copyFrom_29 : decode cX2_copyFrom 29 = .ok (.iconst 0, 1) := by decide +kernel
theorem dX2_copyFrom_30 : decode cX2_copyFrom 30 = .ok (.aload_n 0, 1) := by decide +kernel
theorem dX2_copyFrom_31 : decode cX2_copyFrom 31 = .ok (.getfield 15, 3) := by decide +kernel
theorem dX2_copyFrom_34 : decode cX2_copyFrom 34 = .ok (.iconst 0, 1) := by decide +kernel
theorem dX2_copyFrom_35 : decode cX2_copyFrom 35 = .ok (.aload_n 0, 1) := by decide +kernel
theorem dX2_copyFrom_36 : decode cX2_copyFrom 36 = .ok (.getfield 31, 3) := by decide +kernel
theorem dX2_copyFrom_39 : decode cX2_copyFrom 39 = .ok (.invokestatic 34, 3) := by decide +kernel
theorem dX2_copyFrom_42 : decode cX2_copyFrom 42 = .ok (.aload_n 1, 1) := by decide +kernel
theorem dX2_copyFrom_43 : decode cX2_copyFrom 43 = .ok (.getfield 18, 3) := by decide +kernel
theorem dX2_copyFrom_46 : decode cX2_copyFrom 46 = .ok (.iconst 0, 1) := by decide +kernel
theorem dX2_copyFrom_47 : decode cX2_copyFrom 47 = .ok (.aload_n 0, 1) := by decide +kernel
theorem dX2_copyFrom_48 : decode cX2_copyFrom 48 = .ok (.getfield 18, 3) := by decide +kernel
theorem dX2_copyFrom_51 : decode cX2_copyFrom 51 = .ok (.iconst 0, 1) := by decide +kernel
theorem dX2_copyFrom_52 : decode cX2_copyFrom 52 = .ok (.aload_n 0, 1) := by decide +kernel
theorem dX2_copyFrom_53 : decode cX2_copyFrom 53 = .ok (.getfield 31, 3) := by decide +kernel
theorem dX2_copyFrom_56 : decode cX2_copyFrom 56 = .ok (.invokestatic 34, 3) := by decide +kernel
theorem dX2_copyFrom_59 : decode cX2_copyFrom 59 = .ok (.aload_n 1, 1) := by decide +kernel
theorem dX2_copyFrom_60 : decode cX2_copyFrom 60 = .ok (.getfield 21, 3) := by decide +kernel
theorem dX2_copyFrom_63 : decode cX2_copyFrom 63 = .ok (.iconst 0, 1) := by decide +kernel
theorem dX2_copyFrom_64 : decode cX2_copyFrom 64 = .ok (.aload_n 0, 1) := by decide +kernel
theorem dX2_copyFrom_65 : decode cX2_copyFrom 65 = .ok (.getfield 21, 3) := by decide +kernel
theorem dX2_copyFrom_68 : decode cX2_copyFrom 68 = .ok (.iconst 0, 1) := by decide +kernel
theorem dX2_copyFrom_69 : decode cX2_copyFrom 69 = .ok (.aload_n 0, 1) := by decide +kernel
theorem dX2_copyFrom_70 : decode cX2_copyFrom 70 = .ok (.getfield 31, 3) := by decide +kernel
theorem dX2_copyFrom_73 : decode cX2_copyFrom 73 = .ok (.invokestatic 34, 3) := by decide +kernel
theorem dX2_copyFrom_76 : decode cX2_copyFrom 76 = .ok (.aload_n 0, 1) := by decide +kernel
theorem dX2_copyFrom_77 : decode cX2_copyFrom 77 = .ok (.aload_n 1, 1) := by decide +kernel
theorem dX2_copyFrom_78 : decode cX2_copyFrom 78 = .ok (.getfield 40, 3) := by decide +kernel
theorem dX2_copyFrom_81 : decode cX2_copyFrom 81 = .ok (.putfield 40, 3) := by decide +kernel
theorem dX2_copyFrom_84 : decode cX2_copyFrom 84 = .ok (.aload_n 1, 1) := by decide +kernel
theorem dX2_copyFrom_85 : decode cX2_copyFrom 85 = .ok (.getfield 24, 3) := by decide +kernel
theorem dX2_copyFrom_88 : decode cX2_copyFrom 88 = .ok (.iconst 0, 1) := by decide +kernel
theorem dX2_copyFrom_89 : decode cX2_copyFrom 89 = .ok (.aload_n 0, 1) := by decide +kernel
theorem dX2_copyFrom_90 : decode cX2_copyFrom 90 = .ok (.getfield 24, 3) := by decide +kernel
theorem dX2_copyFrom_93 : decode cX2_copyFrom 93 = .ok (.iconst 0, 1) := by decide +kernel
theorem dX2_copyFrom_94 : decode cX2_copyFrom 94 = .ok (.aload_n 0, 1) := by decide +kernel
theorem dX2_copyFrom_95 : decode cX2_copyFrom 95 = .ok (.getfield 40, 3) := by decide +kernel
theorem dX2_copyFrom_98 : decode cX2_copyFrom 98 = .ok (.invokestatic 34, 3) := by decide +kernel
theorem dX2_copyFrom_101 : decode cX2_copyFrom 101 = .ok (.aload_n 0, 1) := by decide +kernel
theorem dX2_copyFrom_102 : decode cX2_copyFrom 102 = .ok (.aload_n 1, 1) := by decide +kernel
theorem dX2_copyFrom_103 : decode cX2_copyFrom 103 = .ok (.getfield 27, 3) := by decide +kernel
theorem dX2_copyFrom_106 : decode cX2_copyFrom 106 = .ok (.putfield 27, 3) := by decide +kernel
theorem dX2_copyFrom_109 : decode cX2_copyFrom 109 = .ok (.aload_n 0, 1) := by decide +kernel
theorem dX2_copyFrom_110 : decode cX2_copyFrom 110 = .ok (.aload_n 1, 1) := by decide +kernel
theorem dX2_copyFrom_111 : decode cX2_copyFrom 111 = .ok (.getfield 43, 3) := by decide +kernel
theorem dX2_copyFrom_114 : decode cX2_copyFrom 114 = .ok (.putfield 43, 3) := by decide +kernel
theorem dX2_copyFrom_117 : decode cX2_copyFrom 117 = .ok (.aload_n 0, 1) := by decide +kernel
theorem dX2_copyFrom_118 : decode cX2_copyFrom 118 = .ok (.aload_n 1, 1) := by decide +kernel
theorem dX2_copyFrom_119 : decode cX2_copyFrom 119 = .ok (.getfield 46, 3) := by decide +kernel
theorem dX2_copyFrom_122 : decode cX2_copyFrom 122 = .ok (.putfield 46, 3) := by decide +kernel
theorem dX2_copyFrom_125 : decode cX2_copyFrom 125 = .ok (.aload_n 0, 1) := by decide +kernel
theorem dX2_copyFrom_126 : decode cX2_copyFrom 126 = .ok (.aload_n 1, 1) := by decide +kernel
theorem dX2_copyFrom_127 : decode cX2_copyFrom 127 = .ok (.getfield 49, 3) := by decide +kernel
theorem dX2_copyFrom_130 : decode cX2_copyFrom 130 = .ok (.putfield 49, 3) := by decide +kernel
theorem dX2_copyFrom_133 : decode cX2_copyFrom 133 = .ok (.aload_n 0, 1) := by decide +kernel
theorem dX2_copyFrom_134 : decode cX2_copyFrom 134 = .ok (.aload_n 1, 1) := by decide +kernel
theorem dX2_copyFrom_135 : decode cX2_copyFrom 135 = .ok (.getfield 52, 3) := by decide +kernel
theorem dX2_copyFrom_138 : decode cX2_copyFrom 138 = .ok (.putfield 52, 3) := by decide +kernel
theorem dX2_copyFrom_141 : decode cX2_copyFrom 141 = .ok (.return_, 1) := by decide +kernel
theorem dX2_isWord_0 : decode cX2_isWord 0 = .ok (.iload_n 1, 1) := by decide +kernel
theorem dX2_isWord_1 : decode cX2_isWord 1 = .ok (.ifCond .lt 15, 3) := by decide +kernel
theorem dX2_isWord_4 : decode cX2_isWord 4 = .ok (.iload_n 1, 1) := by decide +kernel
theorem dX2_isWord_5 : decode cX2_isWord 5 = .ok (.aload_n 0, 1) := by decide +kernel
theorem dX2_isWord_6 : decode cX2_isWord 6 = .ok (.getfield 31, 3) := by decide +kernel
theorem dX2_isWord_9 : decode cX2_isWord 9 = .ok (.if_icmp .ge 7, 3) := by decide +kernel
theorem dX2_isWord_12 : decode cX2_isWord 12 = .ok (.iconst 1, 1) := by decide +kernel
theorem dX2_isWord_13 : decode cX2_isWord 13 = .ok (.goto 4, 3) := by decide +kernel
theorem dX2_isWord_16 : decode cX2_isWord 16 = .ok (.iconst 0, 1) := by decide +kernel
theorem dX2_isWord_17 : decode cX2_isWord 17 = .ok (.ireturn, 1) := by decide +kernel
theorem dX2_isBetween_0 : decode cX2_isBetween 0 = .ok (.iload_n 1, 1) := by decide +kernel
theorem dX2_isBetween_1 : decode cX2_isBetween 1 = .ok (.ifCond .lt 35, 3) := by decide +kernel
theorem dX2_isBetween_4 : decode cX2_isBetween 4 = .ok (.iload_n 1, 1) := by decide +kernel
theorem dX2_isBetween_5 : decode cX2_isBetween 5 = .ok (.aload_n 0, 1) := by decide +kernel
theorem dX2_isBetween_6 : decode cX2_isBetween 6 = .ok (.getfield 31, 3) := by decide +kernel
theorem dX2_isBetween_9 : decode cX2_isBetween 9 = .ok (.if_icmp .ge 27, 3) := by decide +kernel
theorem dX2_isBetween_12 : decode cX2_isBetween 12 = .ok (.aload_n 0, 1) := by decide +kernel
theorem dX2_isBetween_13 : decode cX2_isBetween 13 = .ok (.getfield 9, 3) := by decide +kernel
theorem dX2_isBetween_16 : decode cX2_isBetween 16 = .ok (.iload_n 1, 1) := by decide +kernel
theorem dX2_isBetween_17 : decode cX2_isBetween 17 = .ok (.iaload, 1) := by decide +kernel
theorem dX2_isBetween_18 : decode cX2_isBetween 18 = .ok (.iload_n 2, 1) := by decide +kernel
theorem dX2_isBetween_19 : decode cX2_isBetween 19 = .ok (.if_icmp .eq 13, 3) := by decide +kernel
theorem dX2_isBetween_22 : decode cX2_isBetween 22 = .ok (.aload_n 0, 1) := by decide +kernel
theorem dX2_isBetween_23 : decode cX2_isBetween 23 = .ok (.getfield 15, 3) := by decide +kernel
theorem dX2_isBetween_26 : decode cX2_isBetween 26 = .ok (.iload_n 1, 1) := by decide +kernel
theorem dX2_isBetween_27 : decode cX2_isBetween 27 = .ok (.iaload, 1) := by decide +kernel
theorem dX2_isBetween_28 : decode cX2_isBetween 28 = .ok (.iload_n 2, 1) := by decide +kernel
theorem dX2_isBetween_29 : decode cX2_isBetween 29 = .ok (.if_icmp .ne 7, 3) := by decide +kernel
theorem dX2_isBetween_32 : decode cX2_isBetween 32 = .ok (.iconst 1, 1) := by decide +kernel
theorem dX2_isBetween_33 : decode cX2_isBetween 33 = .ok (.goto 4, 3) := by decide +kernel
theorem dX2_isBetween_36 : decode cX2_isBetween 36 = .ok (.iconst 0, 1) := by decide +kernel
theorem dX2_isBetween_37 : decode cX2_isBetween 37 = .ok (.ireturn, 1) := by decide +kernel
theorem dX2_wordAtRank_0 : decode cX2_wordAtRank 0 = .ok (.iload_n 1, 1) := by decide +kernel
theorem dX2_wordAtRank_1 : decode cX2_wordAtRank 1 = .ok (.ifCond .lt 20, 3) := by decide +kernel
theorem dX2_wordAtRank_4 : decode cX2_wordAtRank 4 = .ok (.iload_n 1, 1) := by decide +kernel
theorem dX2_wordAtRank_5 : decode cX2_wordAtRank 5 = .ok (.aload_n 0, 1) := by decide +kernel
theorem dX2_wordAtRank_6 : decode cX2_wordAtRank 6 = .ok (.getfield 40, 3) := by decide +kernel
theorem dX2_wordAtRank_9 : decode cX2_wordAtRank 9 = .ok (.if_icmp .ge 12, 3) := by decide +kernel
theorem dX2_wordAtRank_12 : decode cX2_wordAtRank 12 = .ok (.aload_n 0, 1) := by decide +kernel
theorem dX2_wordAtRank_13 : decode cX2_wordAtRank 13 = .ok (.getfield 24, 3) := by decide +kernel
theorem dX2_wordAtRank_16 : decode cX2_wordAtRank 16 = .ok (.iload_n 1, 1) := by decide +kernel
theorem dX2_wordAtRank_17 : decode cX2_wordAtRank 17 = .ok (.iaload, 1) := by decide +kernel
theorem dX2_wordAtRank_18 : decode cX2_wordAtRank 18 = .ok (.goto 5, 3) := by decide +kernel
theorem dX2_wordAtRank_21 : decode cX2_wordAtRank 21 = .ok (.bipush (-6), 2) := by decide +kernel
theorem dX2_wordAtRank_23 : decode cX2_wordAtRank 23 = .ok (.ireturn, 1) := by decide +kernel
theorem dX2_openWords_0 : decode cX2_openWords 0 = .ok (.aload_n 0, 1) := by decide +kernel
theorem dX2_openWords_1 : decode cX2_openWords 1 = .ok (.aload_n 0, 1) := by decide +kernel
theorem dX2_openWords_2 : decode cX2_openWords 2 = .ok (.getfield 27, 3) := by decide +kernel
theorem dX2_openWords_5 : decode cX2_openWords 5 = .ok (.invokevirtual 55, 3) := by decide +kernel
theorem dX2_openWords_8 : decode cX2_openWords 8 = .ok (.ifCond .eq 12, 3) := by decide +kernel
theorem dX2_openWords_11 : decode cX2_openWords 11 = .ok (.aload_n 0, 1) := by decide +kernel
theorem dX2_openWords_12 : decode cX2_openWords 12 = .ok (.getfield 40, 3) := by decide +kernel
theorem dX2_openWords_15 : decode cX2_openWords 15 = .ok (.iconst 1, 1) := by decide +kernel
theorem dX2_openWords_16 : decode cX2_openWords 16 = .ok (.iadd, 1) := by decide +kernel
theorem dX2_openWords_17 : decode cX2_openWords 17 = .ok (.goto 7, 3) := by decide +kernel
theorem dX2_openWords_20 : decode cX2_openWords 20 = .ok (.aload_n 0, 1) := by decide +kernel
theorem dX2_openWords_21 : decode cX2_openWords 21 = .ok (.getfield 40, 3) := by decide +kernel
theorem dX2_openWords_24 : decode cX2_openWords 24 = .ok (.ireturn, 1) := by decide +kernel
theorem dX2_openWordsOf_0 : decode cX2_openWordsOf 0 = .ok (.aload_n 0, 1) := by decide +kernel
theorem dX2_openWordsOf_1 : decode cX2_openWordsOf 1 = .ok (.aload_n 0, 1) := by decide +kernel
theorem dX2_openWordsOf_2 : decode cX2_openWordsOf 2 = .ok (.getfield 27, 3) := by decide +kernel
theorem dX2_openWordsOf_5 : decode cX2_openWordsOf 5 = .ok (.iload_n 1, 1) := by decide +kernel
theorem dX2_openWordsOf_6 : decode cX2_openWordsOf 6 = .ok (.invokevirtual 59, 3) := by decide +kernel
theorem dX2_openWordsOf_9 : decode cX2_openWordsOf 9 = .ok (.ifCond .eq 7, 3) := by decide +kernel
theorem dX2_openWordsOf_12 : decode cX2_openWordsOf 12 = .ok (.iconst 1, 1) := by decide +kernel
theorem dX2_openWordsOf_13 : decode cX2_openWordsOf 13 = .ok (.goto 4, 3) := by decide +kernel
theorem dX2_openWordsOf_16 : decode cX2_openWordsOf 16 = .ok (.iconst 0, 1) := by decide +kernel
theorem dX2_openWordsOf_17 : decode cX2_openWordsOf 17 = .ok (.istore_n 2, 1) := by decide +kernel
theorem dX2_openWordsOf_18 : decode cX2_openWordsOf 18 = .ok (.iconst 0, 1) := by decide +kernel
theorem dX2_openWordsOf_19 : decode cX2_openWordsOf 19 = .ok (.istore_n 3, 1) := by decide +kernel
theorem dX2_openWordsOf_20 : decode cX2_openWordsOf 20 = .ok (.iload_n 3, 1) := by decide +kernel
theorem dX2_openWordsOf_21 : decode cX2_openWordsOf 21 = .ok (.aload_n 0, 1) := by decide +kernel
theorem dX2_openWordsOf_22 : decode cX2_openWordsOf 22 = .ok (.getfield 40, 3) := by decide +kernel
theorem dX2_openWordsOf_25 : decode cX2_openWordsOf 25 = .ok (.if_icmp .ge 26, 3) := by decide +kernel
theorem dX2_openWordsOf_28 : decode cX2_openWordsOf 28 = .ok (.aload_n 0, 1) := by decide +kernel
theorem dX2_openWordsOf_29 : decode cX2_openWordsOf 29 = .ok (.aload_n 0, 1) := by decide +kernel
theorem dX2_openWordsOf_30 : decode cX2_openWordsOf 30 = .ok (.getfield 24, 3) := by decide +kernel
theorem dX2_openWordsOf_33 : decode cX2_openWordsOf 33 = .ok (.iload_n 3, 1) := by decide +kernel
theorem dX2_openWordsOf_34 : decode cX2_openWordsOf 34 = .ok (.iaload, 1) := by decide +kernel
theorem dX2_openWordsOf_35 : decode cX2_openWordsOf 35 = .ok (.iload_n 1, 1) := by decide +kernel
theorem dX2_openWordsOf_36 : decode cX2_openWordsOf 36 = .ok (.invokevirtual 59, 3) := by decide +kernel
theorem dX2_openWordsOf_39 : decode cX2_openWordsOf 39 = .ok (.ifCond .eq 6, 3) := by decide +kernel
theorem dX2_openWordsOf_42 : decode cX2_openWordsOf 42 = .ok (.iinc 2 1, 3) := by decide +kernel
theorem dX2_openWordsOf_45 : decode cX2_openWordsOf 45 = .ok (.iinc 3 1, 3) := by decide +kernel
theorem dX2_openWordsOf_48 : decode cX2_openWordsOf 48 = .ok (.goto (-28), 3) := by decide +kernel
theorem dX2_openWordsOf_51 : decode cX2_openWordsOf 51 = .ok (.iload_n 2, 1) := by decide +kernel
theorem dX2_openWordsOf_52 : decode cX2_openWordsOf 52 = .ok (.ireturn, 1) := by decide +kernel
theorem dX2_deliveredFrom_0 : decode cX2_deliveredFrom 0 = .ok (.iconst 0, 1) := by decide +kernel
theorem dX2_deliveredFrom_1 : decode cX2_deliveredFrom 1 = .ok (.istore_n 2, 1) := by decide +kernel
theorem dX2_deliveredFrom_2 : decode cX2_deliveredFrom 2 = .ok (.iconst 0, 1) := by decide +kernel
theorem dX2_deliveredFrom_3 : decode cX2_deliveredFrom 3 = .ok (.istore_n 3, 1) := by decide +kernel
theorem dX2_deliveredFrom_4 : decode cX2_deliveredFrom 4 = .ok (.iload_n 3, 1) := by decide +kernel
theorem dX2_deliveredFrom_5 : decode cX2_deliveredFrom 5 = .ok (.aload_n 0, 1) := by decide +kernel
theorem dX2_deliveredFrom_6 : decode cX2_deliveredFrom 6 = .ok (.getfield 31, 3) := by decide +kernel
theorem dX2_deliveredFrom_9 : decode cX2_deliveredFrom 9 = .ok (.if_icmp .ge 32, 3) := by decide +kernel
theorem dX2_deliveredFrom_12 : decode cX2_deliveredFrom 12 = .ok (.aload_n 0, 1) := by decide +kernel
theorem dX2_deliveredFrom_13 : decode cX2_deliveredFrom 13 = .ok (.getfield 9, 3) := by decide +kernel
theorem dX2_deliveredFrom_16 : decode cX2_deliveredFrom 16 = .ok (.iload_n 3, 1) := by decide +kernel
theorem dX2_deliveredFrom_17 : decode cX2_deliveredFrom 17 = .ok (.iaload, 1) := by decide +kernel
theorem dX2_deliveredFrom_18 : decode cX2_deliveredFrom 18 = .ok (.iload_n 1, 1) := by decide +kernel
theorem dX2_deliveredFrom_19 : decode cX2_deliveredFrom 19 = .ok (.if_icmp .ne 16, 3) := by decide +kernel
theorem dX2_deliveredFrom_22 : decode cX2_deliveredFrom 22 = .ok (.aload_n 0, 1) := by decide +kernel
theorem dX2_deliveredFrom_23 : decode cX2_deliveredFrom 23 = .ok (.getfield 18, 3) := by decide +kernel
theorem dX2_deliveredFrom_26 : decode cX2_deliveredFrom 26 = .ok (.iload_n 3, 1) := by decide +kernel
theorem dX2_deliveredFrom_27 : decode cX2_deliveredFrom 27 = .ok (.iaload, 1) := by decide +kernel
theorem dX2_deliveredFrom_28 : decode cX2_deliveredFrom 28 = .ok (.iconst 2, 1) := by decide +kernel
theorem dX2_deliveredFrom_29 : decode cX2_deliveredFrom 29 = .ok (.if_icmp .ne 6, 3) := by decide +kernel
theorem dX2_deliveredFrom_32 : decode cX2_deliveredFrom 32 = .ok (.iinc 2 1, 3) := by decide +kernel
theorem dX2_deliveredFrom_35 : decode cX2_deliveredFrom 35 = .ok (.iinc 3 1, 3) := by decide +kernel
theorem dX2_deliveredFrom_38 : decode cX2_deliveredFrom 38 = .ok (.goto (-34), 3) := by decide +kernel
theorem dX2_deliveredFrom_41 : decode cX2_deliveredFrom 41 = .ok (.iload_n 2, 1) := by decide +kernel
theorem dX2_deliveredFrom_42 : decode cX2_deliveredFrom 42 = .ok (.ireturn, 1) := by decide +kernel
theorem dX2_aboutWord_0 : decode cX2_aboutWord 0 = .ok (.aload_n 0, 1) := by decide +kernel
theorem dX2_aboutWord_1 : decode cX2_aboutWord 1 = .ok (.iload_n 1, 1) := by decide +kernel
theorem dX2_aboutWord_2 : decode cX2_aboutWord 2 = .ok (.invokevirtual 55, 3) := by decide +kernel
theorem dX2_aboutWord_5 : decode cX2_aboutWord 5 = .ok (.ifCond .ne 5, 3) := by decide +kernel
theorem dX2_aboutWord_8 : decode cX2_aboutWord 8 = .ok (.iconst (-1), 1) := by decide +kernel
theorem dX2_aboutWord_9 : decode cX2_aboutWord 9 = .ok (.ireturn, 1) := by decide +kernel
theorem dX2_aboutWord_10 : decode cX2_aboutWord 10 = .ok (.iload_n 2, 1) := by decide +kernel
theorem dX2_aboutWord_11 : decode cX2_aboutWord 11 = .ok (.tableswitch 78 0 4 #[33, 40, 47, 54, 61], 33) := by decide +kernel
theorem dX2_aboutWord_44 : decode cX2_aboutWord 44 = .ok (.aload_n 0, 1) := by decide +kernel
theorem dX2_aboutWord_45 : decode cX2_aboutWord 45 = .ok (.getfield 9, 3) := by decide +kernel
theorem dX2_aboutWord_48 : decode cX2_aboutWord 48 = .ok (.iload_n 1, 1) := by decide +kernel
theorem dX2_aboutWord_49 : decode cX2_aboutWord 49 = .ok (.iaload, 1) := by decide +kernel
theorem dX2_aboutWord_50 : decode cX2_aboutWord 50 = .ok (.ireturn, 1) := by decide +kernel
theorem dX2_aboutWord_51 : decode cX2_aboutWord 51 = .ok (.aload_n 0, 1) := by decide +kernel
theorem dX2_aboutWord_52 : decode cX2_aboutWord 52 = .ok (.getfield 15, 3) := by decide +kernel
theorem dX2_aboutWord_55 : decode cX2_aboutWord 55 = .ok (.iload_n 1, 1) := by decide +kernel
theorem dX2_aboutWord_56 : decode cX2_aboutWord 56 = .ok (.iaload, 1) := by decide +kernel
theorem dX2_aboutWord_57 : decode cX2_aboutWord 57 = .ok (.ireturn, 1) := by decide +kernel
theorem dX2_aboutWord_58 : decode cX2_aboutWord 58 = .ok (.aload_n 0, 1) := by decide +kernel
theorem dX2_aboutWord_59 : decode cX2_aboutWord 59 = .ok (.getfield 18, 3) := by decide +kernel
theorem dX2_aboutWord_62 : decode cX2_aboutWord 62 = .ok (.iload_n 1, 1) := by decide +kernel
theorem dX2_aboutWord_63 : decode cX2_aboutWord 63 = .ok (.iaload, 1) := by decide +kernel
theorem dX2_aboutWord_64 : decode cX2_aboutWord 64 = .ok (.ireturn, 1) := by decide +kernel
theorem dX2_aboutWord_65 : decode cX2_aboutWord 65 = .ok (.aload_n 0, 1) := by decide +kernel
theorem dX2_aboutWord_66 : decode cX2_aboutWord 66 = .ok (.getfield 21, 3) := by decide +kernel
theorem dX2_aboutWord_69 : decode cX2_aboutWord 69 = .ok (.iload_n 1, 1) := by decide +kernel
theorem dX2_aboutWord_70 : decode cX2_aboutWord 70 = .ok (.iaload, 1) := by decide +kernel
theorem dX2_aboutWord_71 : decode cX2_aboutWord 71 = .ok (.ireturn, 1) := by decide +kernel
theorem dX2_aboutWord_72 : decode cX2_aboutWord 72 = .ok (.iload_n 1, 1) := by decide +kernel
theorem dX2_aboutWord_73 : decode cX2_aboutWord 73 = .ok (.aload_n 0, 1) := by decide +kernel
theorem dX2_aboutWord_74 : decode cX2_aboutWord 74 = .ok (.getfield 27, 3) := by decide +kernel
theorem dX2_aboutWord_77 : decode cX2_aboutWord 77 = .ok (.if_icmp .ne 10, 3) := by decide +kernel
theorem dX2_aboutWord_80 : decode cX2_aboutWord 80 = .ok (.aload_n 0, 1) := by decide +kernel
theorem dX2_aboutWord_81 : decode cX2_aboutWord 81 = .ok (.getfield 43, 3) := by decide +kernel
theorem dX2_aboutWord_84 : decode cX2_aboutWord 84 = .ok (.goto 4, 3) := by decide +kernel
theorem dX2_aboutWord_87 : decode cX2_aboutWord 87 = .ok (.iconst 0, 1) := by decide +kernel
theorem dX2_aboutWord_88 : decode cX2_aboutWord 88 = .ok (.ireturn, 1) := by decide +kernel
theorem dX2_aboutWord_89 : decode cX2_aboutWord 89 = .ok (.bipush (-2), 2) := by decide +kernel
theorem dX2_aboutWord_91 : decode cX2_aboutWord 91 = .ok (.ireturn, 1) := by decide +kernel
theorem dX2_queueWord_0 : decode cX2_queueWord 0 = .ok (.aload_n 0, 1) := by decide +kernel
theorem dX2_queueWord_1 : decode cX2_queueWord 1 = .ok (.invokevirtual 63, 3) := by decide +kernel
theorem dX2_queueWord_4 : decode cX2_queueWord 4 = .ok (.bipush 10, 2) := by decide +kernel
theorem dX2_queueWord_6 : decode cX2_queueWord 6 = .ok (.if_icmp .ge 13, 3) := by decide +kernel
theorem dX2_queueWord_9 : decode cX2_queueWord 9 = .ok (.aload_n 0, 1) := by decide +kernel
theorem dX2_queueWord_10 : decode cX2_queueWord 10 = .ok (.getfield 31, 3) := by decide +kernel
theorem dX2_queueWord_13 : decode cX2_queueWord 13 = .ok (.sipush 200, 3) := by decide +kernel
theorem dX2_queueWord_16 : decode cX2_queueWord 16 = .ok (.if_icmp .lt 6, 3) := by decide +kernel
theorem dX2_queueWord_19 : decode cX2_queueWord 19 = .ok (.bipush (-4), 2) := by decide +kernel
theorem dX2_queueWord_21 : decode cX2_queueWord 21 = .ok (.ireturn, 1) := by decide +kernel
theorem dX2_queueWord_22 : decode cX2_queueWord 22 = .ok (.aload_n 0, 1) := by decide +kernel
theorem dX2_queueWord_23 : decode cX2_queueWord 23 = .ok (.getfield 31, 3) := by decide +kernel
theorem dX2_queueWord_26 : decode cX2_queueWord 26 = .ok (.istore_n 3, 1) := by decide +kernel
theorem dX2_queueWord_27 : decode cX2_queueWord 27 = .ok (.aload_n 0, 1) := by decide +kernel
theorem dX2_queueWord_28 : decode cX2_queueWord 28 = .ok (.getfield 9, 3) := by decide +kernel
theorem dX2_queueWord_31 : decode cX2_queueWord 31 = .ok (.iload_n 3, 1) := by decide +kernel
theorem dX2_queueWord_32 : decode cX2_queueWord 32 = .ok (.iload_n 1, 1) := by decide +kernel
theorem dX2_queueWord_33 : decode cX2_queueWord 33 = .ok (.iastore, 1) := by decide +kernel
theorem dX2_queueWord_34 : decode cX2_queueWord 34 = .ok (.aload_n 0, 1) := by decide +kernel
theorem dX2_queueWord_35 : decode cX2_queueWord 35 = .ok (.getfield 15, 3) := by decide +kernel
theorem dX2_queueWord_38 : decode cX2_queueWord 38 = .ok (.iload_n 3, 1) := by decide +kernel
theorem dX2_queueWord_39 : decode cX2_queueWord 39 = .ok (.iload_n 2, 1) := by decide +kernel
theorem dX2_queueWord_40 : decode cX2_queueWord 40 = .ok (.iastore, 1) := by decide +kernel
theorem dX2_queueWord_41 : decode cX2_queueWord 41 = .ok (.aload_n 0, 1) := by decide +kernel
theorem dX2_queueWord_42 : decode cX2_queueWord 42 = .ok (.getfield 18, 3) := by decide +kernel
theorem dX2_queueWord_45 : decode cX2_queueWord 45 = .ok (.iload_n 3, 1) := by decide +kernel
theorem dX2_queueWord_46 : decode cX2_queueWord 46 = .ok (.iconst 0, 1) := by decide +kernel
theorem dX2_queueWord_47 : decode cX2_queueWord 47 = .ok (.iastore, 1) := by decide +kernel
theorem dX2_queueWord_48 : decode cX2_queueWord 48 = .ok (.aload_n 0, 1) := by decide +kernel
theorem dX2_queueWord_49 : decode cX2_queueWord 49 = .ok (.getfield 21, 3) := by decide +kernel
theorem dX2_queueWord_52 : decode cX2_queueWord 52 = .ok (.iload_n 3, 1) := by decide +kernel
theorem dX2_queueWord_53 : decode cX2_queueWord 53 = .ok (.iconst 0, 1) := by decide +kernel
theorem dX2_queueWord_54 : decode cX2_queueWord 54 = .ok (.iastore, 1) := by decide +kernel
theorem dX2_queueWord_55 : decode cX2_queueWord 55 = .ok (.aload_n 0, 1) := by decide +kernel
theorem dX2_queueWord_56 : decode cX2_queueWord 56 = .ok (.getfield 24, 3) := by decide +kernel
theorem dX2_queueWord_59 : decode cX2_queueWord 59 = .ok (.aload_n 0, 1) := by decide +kernel
theorem dX2_queueWord_60 : decode cX2_queueWord 60 = .ok (.getfield 40, 3) := by decide +kernel
theorem dX2_queueWord_63 : decode cX2_queueWord 63 = .ok (.iload_n 3, 1) := by decide +kernel
theorem dX2_queueWord_64 : decode cX2_queueWord 64 = .ok (.iastore, 1) := by decide +kernel
theorem dX2_queueWord_65 : decode cX2_queueWord 65 = .ok (.aload_n 0, 1) := by decide +kernel
theorem dX2_queueWord_66 : decode cX2_queueWord 66 = .ok (.dup, 1) := by decide +kernel
theorem dX2_queueWord_67 : decode cX2_queueWord 67 = .ok (.getfield 40, 3) := by decide +kernel
theorem dX2_queueWord_70 : decode cX2_queueWord 70 = .ok (.iconst 1, 1) := by decide +kernel
theorem dX2_queueWord_71 : decode cX2_queueWord 71 = .ok (.iadd, 1) := by decide +kernel
theorem dX2_queueWord_72 : decode cX2_queueWord 72 = .ok (.putfield 40, 3) := by decide +kernel
theorem dX2_queueWord_75 : decode cX2_queueWord 75 = .ok (.aload_n 0, 1) := by decide +kernel
theorem dX2_queueWord_76 : decode cX2_queueWord 76 = .ok (.dup, 1) := by decide +kernel
theorem dX2_queueWord_77 : decode cX2_queueWord 77 = .ok (.getfield 31, 3) := by decide +kernel
theorem dX2_queueWord_80 : decode cX2_queueWord 80 = .ok (.iconst 1, 1) := by decide +kernel
theorem dX2_queueWord_81 : decode cX2_queueWord 81 = .ok (.iadd, 1) := by decide +kernel
theorem dX2_queueWord_82 : decode cX2_queueWord 82 = .ok (.putfield 31, 3) := by decide +kernel
theorem dX2_queueWord_85 : decode cX2_queueWord 85 = .ok (.iload_n 3, 1) := by decide +kernel
theorem dX2_queueWord_86 : decode cX2_queueWord 86 = .ok (.ireturn, 1) := by decide +kernel
theorem dX2_loseWordsOf_0 : decode cX2_loseWordsOf 0 = .ok (.iconst 0, 1) := by decide +kernel
theorem dX2_loseWordsOf_1 : decode cX2_loseWordsOf 1 = .ok (.istore_n 2, 1) := by decide +kernel
theorem dX2_loseWordsOf_2 : decode cX2_loseWordsOf 2 = .ok (.iconst 0, 1) := by decide +kernel
theorem dX2_loseWordsOf_3 : decode cX2_loseWordsOf 3 = .ok (.istore_n 3, 1) := by decide +kernel
theorem dX2_loseWordsOf_4 : decode cX2_loseWordsOf 4 = .ok (.iload_n 3, 1) := by decide +kernel
theorem dX2_loseWordsOf_5 : decode cX2_loseWordsOf 5 = .ok (.aload_n 0, 1) := by decide +kernel
theorem dX2_loseWordsOf_6 : decode cX2_loseWordsOf 6 = .ok (.getfield 40, 3) := by decide +kernel
theorem dX2_loseWordsOf_9 : decode cX2_loseWordsOf 9 = .ok (.if_icmp .ge 59, 3) := by decide +kernel
theorem dX2_loseWordsOf_12 : decode cX2_loseWordsOf 12 = .ok (.aload_n 0, 1) := by decide +kernel
theorem dX2_loseWordsOf_13 : decode cX2_loseWordsOf 13 = .ok (.getfield 24, 3) := by decide +kernel
theorem dX2_loseWordsOf_16 : decode cX2_loseWordsOf 16 = .ok (.iload_n 3, 1) := by decide +kernel
theorem dX2_loseWordsOf_17 : decode cX2_loseWordsOf 17 = .ok (.iaload, 1) := by decide +kernel
theorem dX2_loseWordsOf_18 : decode cX2_loseWordsOf 18 = .ok (.istore 4, 2) := by decide +kernel
theorem dX2_loseWordsOf_20 : decode cX2_loseWordsOf 20 = .ok (.aload_n 0, 1) := by decide +kernel
theorem dX2_loseWordsOf_21 : decode cX2_loseWordsOf 21 = .ok (.iload 4, 2) := by decide +kernel
theorem dX2_loseWordsOf_23 : decode cX2_loseWordsOf 23 = .ok (.iload_n 1, 1) := by decide +kernel
theorem dX2_loseWordsOf_24 : decode cX2_loseWordsOf 24 = .ok (.invokevirtual 59, 3) := by decide +kernel
theorem dX2_loseWordsOf_27 : decode cX2_loseWordsOf 27 = .ok (.ifCond .eq 24, 3) := by decide +kernel
theorem dX2_loseWordsOf_30 : decode cX2_loseWordsOf 30 = .ok (.aload_n 0, 1) := by decide +kernel
theorem dX2_loseWordsOf_31 : decode cX2_loseWordsOf 31 = .ok (.getfield 18, 3) := by decide +kernel
theorem dX2_loseWordsOf_34 : decode cX2_loseWordsOf 34 = .ok (.iload 4, 2) := by decide +kernel
theorem dX2_loseWordsOf_36 : decode cX2_loseWordsOf 36 = .ok (.iconst 3, 1) := by decide +kernel
theorem dX2_loseWordsOf_37 : decode cX2_loseWordsOf 37 = .ok (.iastore, 1) := by decide +kernel
theorem dX2_loseWordsOf_38 : decode cX2_loseWordsOf 38 = .ok (.aload_n 0, 1) := by decide +kernel
theorem dX2_loseWordsOf_39 : decode cX2_loseWordsOf 39 = .ok (.dup, 1) := by decide +kernel
theorem dX2_loseWordsOf_40 : decode cX2_loseWordsOf 40 = .ok (.getfield 49, 3) := by decide +kernel
theorem dX2_loseWordsOf_43 : decode cX2_loseWordsOf 43 = .ok (.iconst 1, 1) := by decide +kernel
theorem dX2_loseWordsOf_44 : decode cX2_loseWordsOf 44 = .ok (.iadd, 1) := by decide +kernel
theorem dX2_loseWordsOf_45 : decode cX2_loseWordsOf 45 = .ok (.putfield 49, 3) := by decide +kernel
theorem dX2_loseWordsOf_48 : decode cX2_loseWordsOf 48 = .ok (.goto 14, 3) := by decide +kernel
theorem dX2_loseWordsOf_51 : decode cX2_loseWordsOf 51 = .ok (.aload_n 0, 1) := by decide +kernel
theorem dX2_loseWordsOf_52 : decode cX2_loseWordsOf 52 = .ok (.getfield 24, 3) := by decide +kernel
theorem dX2_loseWordsOf_55 : decode cX2_loseWordsOf 55 = .ok (.iload_n 2, 1) := by decide +kernel
theorem dX2_loseWordsOf_56 : decode cX2_loseWordsOf 56 = .ok (.iload 4, 2) := by decide +kernel
theorem dX2_loseWordsOf_58 : decode cX2_loseWordsOf 58 = .ok (.iastore, 1) := by decide +kernel
theorem dX2_loseWordsOf_59 : decode cX2_loseWordsOf 59 = .ok (.iinc 2 1, 3) := by decide +kernel
theorem dX2_loseWordsOf_62 : decode cX2_loseWordsOf 62 = .ok (.iinc 3 1, 3) := by decide +kernel
theorem dX2_loseWordsOf_65 : decode cX2_loseWordsOf 65 = .ok (.goto (-61), 3) := by decide +kernel
theorem dX2_loseWordsOf_68 : decode cX2_loseWordsOf 68 = .ok (.aload_n 0, 1) := by decide +kernel
theorem dX2_loseWordsOf_69 : decode cX2_loseWordsOf 69 = .ok (.iload_n 2, 1) := by decide +kernel
theorem dX2_loseWordsOf_70 : decode cX2_loseWordsOf 70 = .ok (.putfield 40, 3) := by decide +kernel
theorem dX2_loseWordsOf_73 : decode cX2_loseWordsOf 73 = .ok (.aload_n 0, 1) := by decide +kernel
theorem dX2_loseWordsOf_74 : decode cX2_loseWordsOf 74 = .ok (.aload_n 0, 1) := by decide +kernel
theorem dX2_loseWordsOf_75 : decode cX2_loseWordsOf 75 = .ok (.getfield 27, 3) := by decide +kernel
theorem dX2_loseWordsOf_78 : decode cX2_loseWordsOf 78 = .ok (.iload_n 1, 1) := by decide +kernel
theorem dX2_loseWordsOf_79 : decode cX2_loseWordsOf 79 = .ok (.invokevirtual 59, 3) := by decide +kernel
theorem dX2_loseWordsOf_82 : decode cX2_loseWordsOf 82 = .ok (.ifCond .eq 18, 3) := by decide +kernel
theorem dX2_loseWordsOf_85 : decode cX2_loseWordsOf 85 = .ok (.aload_n 0, 1) := by decide +kernel
theorem dX2_loseWordsOf_86 : decode cX2_loseWordsOf 86 = .ok (.dup, 1) := by decide +kernel
theorem dX2_loseWordsOf_87 : decode cX2_loseWordsOf 87 = .ok (.getfield 49, 3) := by decide +kernel
theorem dX2_loseWordsOf_90 : decode cX2_loseWordsOf 90 = .ok (.iconst 1, 1) := by decide +kernel
theorem dX2_loseWordsOf_91 : decode cX2_loseWordsOf 91 = .ok (.iadd, 1) := by decide +kernel
theorem dX2_loseWordsOf_92 : decode cX2_loseWordsOf 92 = .ok (.putfield 49, 3) := by decide +kernel
theorem dX2_loseWordsOf_95 : decode cX2_loseWordsOf 95 = .ok (.aload_n 0, 1) := by decide +kernel
theorem dX2_loseWordsOf_96 : decode cX2_loseWordsOf 96 = .ok (.iconst 3, 1) := by decide +kernel
theorem dX2_loseWordsOf_97 : decode cX2_loseWordsOf 97 = .ok (.invokevirtual 67, 3) := by decide +kernel
theorem dX2_loseWordsOf_100 : decode cX2_loseWordsOf 100 = .ok (.return_, 1) := by decide +kernel
theorem dX2_hurtWordOnBus_0 : decode cX2_hurtWordOnBus 0 = .ok (.aload_n 0, 1) := by decide +kernel
theorem dX2_hurtWordOnBus_1 : decode cX2_hurtWordOnBus 1 = .ok (.aload_n 0, 1) := by decide +kernel
theorem dX2_hurtWordOnBus_2 : decode cX2_hurtWordOnBus 2 = .ok (.getfield 27, 3) := by decide +kernel
theorem dX2_hurtWordOnBus_5 : decode cX2_hurtWordOnBus 5 = .ok (.invokevirtual 55, 3) := by decide +kernel
theorem dX2_hurtWordOnBus_8 : decode cX2_hurtWordOnBus 8 = .ok (.ifCond .ne 4, 3) := by decide +kernel
theorem dX2_hurtWordOnBus_11 : decode cX2_hurtWordOnBus 11 = .ok (.return_, 1) := by decide +kernel
theorem dX2_hurtWordOnBus_12 : decode cX2_hurtWordOnBus 12 = .ok (.aload_n 0, 1) := by decide +kernel
theorem dX2_hurtWordOnBus_13 : decode cX2_hurtWordOnBus 13 = .ok (.getfield 21, 3) := by decide +kernel
theorem dX2_hurtWordOnBus_16 : decode cX2_hurtWordOnBus 16 = .ok (.aload_n 0, 1) := by decide +kernel
theorem dX2_hurtWordOnBus_17 : decode cX2_hurtWordOnBus 17 = .ok (.getfield 27, 3) := by decide +kernel
theorem dX2_hurtWordOnBus_20 : decode cX2_hurtWordOnBus 20 = .ok (.dup2, 1) := by decide +kernel
theorem dX2_hurtWordOnBus_21 : decode cX2_hurtWordOnBus 21 = .ok (.iaload, 1) := by decide +kernel
theorem dX2_hurtWordOnBus_22 : decode cX2_hurtWordOnBus 22 = .ok (.iconst 1, 1) := by decide +kernel
theorem dX2_hurtWordOnBus_23 : decode cX2_hurtWordOnBus 23 = .ok (.iadd, 1) := by decide +kernel
theorem dX2_hurtWordOnBus_24 : decode cX2_hurtWordOnBus 24 = .ok (.iastore, 1) := by decide +kernel
theorem dX2_hurtWordOnBus_25 : decode cX2_hurtWordOnBus 25 = .ok (.aload_n 0, 1) := by decide +kernel
theorem dX2_hurtWordOnBus_26 : decode cX2_hurtWordOnBus 26 = .ok (.dup, 1) := by decide +kernel
theorem dX2_hurtWordOnBus_27 : decode cX2_hurtWordOnBus 27 = .ok (.getfield 52, 3) := by decide +kernel
theorem dX2_hurtWordOnBus_30 : decode cX2_hurtWordOnBus 30 = .ok (.iconst 1, 1) := by decide +kernel
theorem dX2_hurtWordOnBus_31 : decode cX2_hurtWordOnBus 31 = .ok (.iadd, 1) := by decide +kernel
theorem dX2_hurtWordOnBus_32 : decode cX2_hurtWordOnBus 32 = .ok (.putfield 52, 3) := by decide +kernel
theorem dX2_hurtWordOnBus_35 : decode cX2_hurtWordOnBus 35 = .ok (.aload_n 0, 1) := by decide +kernel
theorem dX2_hurtWordOnBus_36 : decode cX2_hurtWordOnBus 36 = .ok (.getfield 21, 3) := by decide +kernel
theorem dX2_hurtWordOnBus_39 : decode cX2_hurtWordOnBus 39 = .ok (.aload_n 0, 1) := by decide +kernel
theorem dX2_hurtWordOnBus_40 : decode cX2_hurtWordOnBus 40 = .ok (.getfield 27, 3) := by decide +kernel
theorem dX2_hurtWordOnBus_43 : decode cX2_hurtWordOnBus 43 = .ok (.iaload, 1) := by decide +kernel
theorem dX2_hurtWordOnBus_44 : decode cX2_hurtWordOnBus 44 = .ok (.iconst 3, 1) := by decide +kernel
theorem dX2_hurtWordOnBus_45 : decode cX2_hurtWordOnBus 45 = .ok (.if_icmp .lt 21, 3) := by decide +kernel
theorem dX2_hurtWordOnBus_48 : decode cX2_hurtWordOnBus 48 = .ok (.aload_n 0, 1) := by decide +kernel
theorem dX2_hurtWordOnBus_49 : decode cX2_hurtWordOnBus 49 = .ok (.dup, 1) := by decide +kernel
theorem dX2_hurtWordOnBus_50 : decode cX2_hurtWordOnBus 50 = .ok (.getfield 49, 3) := by decide +kernel
theorem dX2_hurtWordOnBus_53 : decode cX2_hurtWordOnBus 53 = .ok (.iconst 1, 1) := by decide +kernel
theorem dX2_hurtWordOnBus_54 : decode cX2_hurtWordOnBus 54 = .ok (.iadd, 1) := by decide +kernel
theorem dX2_hurtWordOnBus_55 : decode cX2_hurtWordOnBus 55 = .ok (.putfield 49, 3) := by decide +kernel
theorem dX2_hurtWordOnBus_58 : decode cX2_hurtWordOnBus 58 = .ok (.aload_n 0, 1) := by decide +kernel
theorem dX2_hurtWordOnBus_59 : decode cX2_hurtWordOnBus 59 = .ok (.iconst 3, 1) := by decide +kernel
theorem dX2_hurtWordOnBus_60 : decode cX2_hurtWordOnBus 60 = .ok (.invokevirtual 67, 3) := by decide +kernel
theorem dX2_hurtWordOnBus_63 : decode cX2_hurtWordOnBus 63 = .ok (.goto 8, 3) := by decide +kernel
theorem dX2_hurtWordOnBus_66 : decode cX2_hurtWordOnBus 66 = .ok (.aload_n 0, 1) := by decide +kernel
theorem dX2_hurtWordOnBus_67 : decode cX2_hurtWordOnBus 67 = .ok (.iload_n 1, 1) := by decide +kernel
theorem dX2_hurtWordOnBus_68 : decode cX2_hurtWordOnBus 68 = .ok (.putfield 43, 3) := by decide +kernel
theorem dX2_hurtWordOnBus_71 : decode cX2_hurtWordOnBus 71 = .ok (.return_, 1) := by decide +kernel
theorem dX2_carryWordOnBus_0 : decode cX2_carryWordOnBus 0 = .ok (.aload_n 0, 1) := by decide +kernel
theorem dX2_carryWordOnBus_1 : decode cX2_carryWordOnBus 1 = .ok (.aload_n 0, 1) := by decide +kernel
theorem dX2_carryWordOnBus_2 : decode cX2_carryWordOnBus 2 = .ok (.getfield 27, 3) := by decide +kernel
theorem dX2_carryWordOnBus_5 : decode cX2_carryWordOnBus 5 = .ok (.invokevirtual 55, 3) := by decide +kernel
theorem dX2_carryWordOnBus_8 : decode cX2_carryWordOnBus 8 = .ok (.ifCond .ne 4, 3) := by decide +kernel
theorem dX2_carryWordOnBus_11 : decode cX2_carryWordOnBus 11 = .ok (.return_, 1) := by decide +kernel
theorem dX2_carryWordOnBus_12 : decode cX2_carryWordOnBus 12 = .ok (.aload_n 0, 1) := by decide +kernel
theorem dX2_carryWordOnBus_13 : decode cX2_carryWordOnBus 13 = .ok (.dup, 1) := by decide +kernel
theorem dX2_carryWordOnBus_14 : decode cX2_carryWordOnBus 14 = .ok (.getfield 43, 3) := by decide +kernel
theorem dX2_carryWordOnBus_17 : decode cX2_carryWordOnBus 17 = .ok (.iconst 1, 1) := by decide +kernel
theorem dX2_carryWordOnBus_18 : decode cX2_carryWordOnBus 18 = .ok (.isub, 1) := by decide +kernel
theorem dX2_carryWordOnBus_19 : decode cX2_carryWordOnBus 19 = .ok (.putfield 43, 3) := by decide +kernel
theorem dX2_carryWordOnBus_22 : decode cX2_carryWordOnBus 22 = .ok (.aload_n 0, 1) := by decide +kernel
theorem dX2_carryWordOnBus_23 : decode cX2_carryWordOnBus 23 = .ok (.getfield 43, 3) := by decide +kernel
theorem dX2_carryWordOnBus_26 : decode cX2_carryWordOnBus 26 = .ok (.ifCond .gt 18, 3) := by decide +kernel
theorem dX2_carryWordOnBus_29 : decode cX2_carryWordOnBus 29 = .ok (.aload_n 0, 1) := by decide +kernel
theorem dX2_carryWordOnBus_30 : decode cX2_carryWordOnBus 30 = .ok (.dup, 1) := by decide +kernel
theorem dX2_carryWordOnBus_31 : decode cX2_carryWordOnBus 31 = .ok (.getfield 46, 3) := by decide +kernel
theorem dX2_carryWordOnBus_34 : decode cX2_carryWordOnBus 34 = .ok (.iconst 1, 1) := by decide +kernel
theorem dX2_carryWordOnBus_35 : decode cX2_carryWordOnBus 35 = .ok (.iadd, 1) := by decide +kernel
theorem dX2_carryWordOnBus_36 : decode cX2_carryWordOnBus 36 = .ok (.putfield 46, 3) := by decide +kernel
theorem dX2_carryWordOnBus_39 : decode cX2_carryWordOnBus 39 = .ok (.aload_n 0, 1) := by decide +kernel
theorem dX2_carryWordOnBus_40 : decode cX2_carryWordOnBus 40 = .ok (.iconst 2, 1) := by decide +kernel
theorem dX2_carryWordOnBus_41 : decode cX2_carryWordOnBus 41 = .ok (.invokevirtual 67, 3) := by decide +kernel
theorem dX2_carryWordOnBus_44 : decode cX2_carryWordOnBus 44 = .ok (.return_, 1) := by decide +kernel
theorem dX2_freeBus_0 : decode cX2_freeBus 0 = .ok (.aload_n 0, 1) := by decide +kernel
theorem dX2_freeBus_1 : decode cX2_freeBus 1 = .ok (.getfield 27, 3) := by decide +kernel
theorem dX2_freeBus_4 : decode cX2_freeBus 4 = .ok (.ifCond .lt 24, 3) := by decide +kernel
theorem dX2_freeBus_7 : decode cX2_freeBus 7 = .ok (.aload_n 0, 1) := by decide +kernel
theorem dX2_freeBus_8 : decode cX2_freeBus 8 = .ok (.getfield 27, 3) := by decide +kernel
theorem dX2_freeBus_11 : decode cX2_freeBus 11 = .ok (.aload_n 0, 1) := by decide +kernel
theorem dX2_freeBus_12 : decode cX2_freeBus 12 = .ok (.getfield 31, 3) := by decide +kernel
theorem dX2_freeBus_15 : decode cX2_freeBus 15 = .ok (.if_icmp .ge 13, 3) := by decide +kernel
theorem dX2_freeBus_18 : decode cX2_freeBus 18 = .ok (.aload_n 0, 1) := by decide +kernel
theorem dX2_freeBus_19 : decode cX2_freeBus 19 = .ok (.getfield 18, 3) := by decide +kernel
theorem dX2_freeBus_22 : decode cX2_freeBus 22 = .ok (.aload_n 0, 1) := by decide +kernel
theorem dX2_freeBus_23 : decode cX2_freeBus 23 = .ok (.getfield 27, 3) := by decide +kernel
theorem dX2_freeBus_26 : decode cX2_freeBus 26 = .ok (.iload_n 1, 1) := by decide +kernel
theorem dX2_freeBus_27 : decode cX2_freeBus 27 = .ok (.iastore, 1) := by decide +kernel
theorem dX2_freeBus_28 : decode cX2_freeBus 28 = .ok (.aload_n 0, 1) := by decide +kernel
theorem dX2_freeBus_29 : decode cX2_freeBus 29 = .ok (.bipush (-6), 2) := by decide +kernel
theorem dX2_freeBus_31 : decode cX2_freeBus 31 = .ok (.putfield 27, 3) := by decide +kernel
theorem dX2_freeBus_34 : decode cX2_freeBus 34 = .ok (.aload_n 0, 1) := by decide +kernel
theorem dX2_freeBus_35 : decode cX2_freeBus 35 = .ok (.iconst 0, 1) := by decide +kernel
theorem dX2_freeBus_36 : decode cX2_freeBus 36 = .ok (.putfield 43, 3) := by decide +kernel
theorem dX2_freeBus_39 : decode cX2_freeBus 39 = .ok (.return_, 1) := by decide +kernel
theorem dX2_takeNextWord_0 : decode cX2_takeNextWord 0 = .ok (.iconst 0, 1) := by decide +kernel
theorem dX2_takeNextWord_1 : decode cX2_takeNextWord 1 = .ok (.istore_n 3, 1) := by decide +kernel
theorem dX2_takeNextWord_2 : decode cX2_takeNextWord 2 = .ok (.iload_n 3, 1) := by decide +kernel
theorem dX2_takeNextWord_3 : decode cX2_takeNextWord 3 = .ok (.aload_n 0, 1) := by decide +kernel
theorem dX2_takeNextWord_4 : decode cX2_takeNextWord 4 = .ok (.getfield 40, 3) := by decide +kernel
theorem dX2_takeNextWord_7 : decode cX2_takeNextWord 7 = .ok (.if_icmp .ge 79, 3) := by decide +kernel
theorem dX2_takeNextWord_10 : decode cX2_takeNextWord 10 = .ok (.aload_n 0, 1) := by decide +kernel
theorem dX2_takeNextWord_11 : decode cX2_takeNextWord 11 = .ok (.getfield 24, 3) := by decide +kernel
theorem dX2_takeNextWord_14 : decode cX2_takeNextWord 14 = .ok (.iload_n 3, 1) := by decide +kernel
theorem dX2_takeNextWord_15 : decode cX2_takeNextWord 15 = .ok (.iaload, 1) := by decide +kernel
theorem dX2_takeNextWord_16 : decode cX2_takeNextWord 16 = .ok (.istore 4, 2) := by decide +kernel
theorem dX2_takeNextWord_18 : decode cX2_takeNextWord 18 = .ok (.aload_n 0, 1) := by decide +kernel
theorem dX2_takeNextWord_19 : decode cX2_takeNextWord 19 = .ok (.iload 4, 2) := by decide +kernel
theorem dX2_takeNextWord_21 : decode cX2_takeNextWord 21 = .ok (.invokevirtual 55, 3) := by decide +kernel
theorem dX2_takeNextWord_24 : decode cX2_takeNextWord 24 = .ok (.ifCond .eq 56, 3) := by decide +kernel
theorem dX2_takeNextWord_27 : decode cX2_takeNextWord 27 = .ok (.aload_n 0, 1) := by decide +kernel
theorem dX2_takeNextWord_28 : decode cX2_takeNextWord 28 = .ok (.getfield 9, 3) := by decide +kernel
theorem dX2_takeNextWord_31 : decode cX2_takeNextWord 31 = .ok (.iload 4, 2) := by decide +kernel
theorem dX2_takeNextWord_33 : decode cX2_takeNextWord 33 = .ok (.iaload, 1) := by decide +kernel
theorem dX2_takeNextWord_34 : decode cX2_takeNextWord 34 = .ok (.iload_n 1, 1) := by decide +kernel
theorem dX2_takeNextWord_35 : decode cX2_takeNextWord 35 = .ok (.invokestatic 71, 3) := by decide +kernel
theorem dX2_takeNextWord_38 : decode cX2_takeNextWord 38 = .ok (.ifCond .eq 42, 3) := by decide +kernel
theorem dX2_takeNextWord_41 : decode cX2_takeNextWord 41 = .ok (.aload_n 0, 1) := by decide +kernel
theorem dX2_takeNextWord_42 : decode cX2_takeNextWord 42 = .ok (.getfield 15, 3) := by decide +kernel
theorem dX2_takeNextWord_45 : decode cX2_takeNextWord 45 = .ok (.iload 4, 2) := by decide +kernel
theorem dX2_takeNextWord_47 : decode cX2_takeNextWord 47 = .ok (.iaload, 1) := by decide +kernel
theorem dX2_takeNextWord_48 : decode cX2_takeNextWord 48 = .ok (.iload_n 1, 1) := by decide +kernel
theorem dX2_takeNextWord_49 : decode cX2_takeNextWord 49 = .ok (.invokestatic 71, 3) := by decide +kernel
theorem dX2_takeNextWord_52 : decode cX2_takeNextWord 52 = .ok (.ifCond .eq 28, 3) := by decide +kernel
theorem dX2_takeNextWord_55 : decode cX2_takeNextWord 55 = .ok (.aload_n 0, 1) := by decide +kernel
theorem dX2_takeNextWord_56 : decode cX2_takeNextWord 56 = .ok (.iload_n 3, 1) := by decide +kernel
theorem dX2_takeNextWord_57 : decode cX2_takeNextWord 57 = .ok (.invokevirtual 74, 3) := by decide +kernel
theorem dX2_takeNextWord_60 : decode cX2_takeNextWord 60 = .ok (.aload_n 0, 1) := by decide +kernel
theorem dX2_takeNextWord_61 : decode cX2_takeNextWord 61 = .ok (.getfield 18, 3) := by decide +kernel
theorem dX2_takeNextWord_64 : decode cX2_takeNextWord 64 = .ok (.iload 4, 2) := by decide +kernel
theorem dX2_takeNextWord_66 : decode cX2_takeNextWord 66 = .ok (.iconst 1, 1) := by decide +kernel
theorem dX2_takeNextWord_67 : decode cX2_takeNextWord 67 = .ok (.iastore, 1) := by decide +kernel
theorem dX2_takeNextWord_68 : decode cX2_takeNextWord 68 = .ok (.aload_n 0, 1) := by decide +kernel
theorem dX2_takeNextWord_69 : decode cX2_takeNextWord 69 = .ok (.iload 4, 2) := by decide +kernel
theorem dX2_takeNextWord_71 : decode cX2_takeNextWord 71 = .ok (.putfield 27, 3) := by decide +kernel
theorem dX2_takeNextWord_74 : decode cX2_takeNextWord 74 = .ok (.aload_n 0, 1) := by decide +kernel
theorem dX2_takeNextWord_75 : decode cX2_takeNextWord 75 = .ok (.iload_n 2, 1) := by decide +kernel
theorem dX2_takeNextWord_76 : decode cX2_takeNextWord 76 = .ok (.putfield 43, 3) := by decide +kernel
theorem dX2_takeNextWord_79 : decode cX2_takeNextWord 79 = .ok (.return_, 1) := by decide +kernel
theorem dX2_takeNextWord_80 : decode cX2_takeNextWord 80 = .ok (.iinc 3 1, 3) := by decide +kernel
theorem dX2_takeNextWord_83 : decode cX2_takeNextWord 83 = .ok (.goto (-81), 3) := by decide +kernel
theorem dX2_takeNextWord_86 : decode cX2_takeNextWord 86 = .ok (.return_, 1) := by decide +kernel
theorem dX2_isInSet_0 : decode cX2_isInSet 0 = .ok (.iload_n 1, 1) := by decide +kernel
theorem dX2_isInSet_1 : decode cX2_isInSet 1 = .ok (.iload_n 0, 1) := by decide +kernel
theorem dX2_isInSet_2 : decode cX2_isInSet 2 = .ok (.ishr, 1) := by decide +kernel
theorem dX2_isInSet_3 : decode cX2_isInSet 3 = .ok (.iconst 1, 1) := by decide +kernel
theorem dX2_isInSet_4 : decode cX2_isInSet 4 = .ok (.iand, 1) := by decide +kernel
theorem dX2_isInSet_5 : decode cX2_isInSet 5 = .ok (.iconst 1, 1) := by decide +kernel
theorem dX2_isInSet_6 : decode cX2_isInSet 6 = .ok (.if_icmp .ne 7, 3) := by decide +kernel
theorem dX2_isInSet_9 : decode cX2_isInSet 9 = .ok (.iconst 1, 1) := by decide +kernel
theorem dX2_isInSet_10 : decode cX2_isInSet 10 = .ok (.goto 4, 3) := by decide +kernel
theorem dX2_isInSet_13 : decode cX2_isInSet 13 = .ok (.iconst 0, 1) := by decide +kernel
theorem dX2_isInSet_14 : decode cX2_isInSet 14 = .ok (.ireturn, 1) := by decide +kernel
theorem dX2_removeFromQueue_0 : decode cX2_removeFromQueue 0 = .ok (.aload_n 0, 1) := by decide +kernel
theorem dX2_removeFromQueue_1 : decode cX2_removeFromQueue 1 = .ok (.dup, 1) := by decide +kernel
theorem dX2_removeFromQueue_2 : decode cX2_removeFromQueue 2 = .ok (.getfield 40, 3) := by decide +kernel
theorem dX2_removeFromQueue_5 : decode cX2_removeFromQueue 5 = .ok (.iconst 1, 1) := by decide +kernel
theorem dX2_removeFromQueue_6 : decode cX2_removeFromQueue 6 = .ok (.isub, 1) := by decide +kernel
theorem dX2_removeFromQueue_7 : decode cX2_removeFromQueue 7 = .ok (.putfield 40, 3) := by decide +kernel
theorem dX2_removeFromQueue_10 : decode cX2_removeFromQueue 10 = .ok (.iload_n 1, 1) := by decide +kernel
theorem dX2_removeFromQueue_11 : decode cX2_removeFromQueue 11 = .ok (.istore_n 2, 1) := by decide +kernel
theorem dX2_removeFromQueue_12 : decode cX2_removeFromQueue 12 = .ok (.iload_n 2, 1) := by decide +kernel
theorem dX2_removeFromQueue_13 : decode cX2_removeFromQueue 13 = .ok (.aload_n 0, 1) := by decide +kernel
theorem dX2_removeFromQueue_14 : decode cX2_removeFromQueue 14 = .ok (.getfield 40, 3) := by decide +kernel
theorem dX2_removeFromQueue_17 : decode cX2_removeFromQueue 17 = .ok (.if_icmp .ge 23, 3) := by decide +kernel
theorem dX2_removeFromQueue_20 : decode cX2_removeFromQueue 20 = .ok (.aload_n 0, 1) := by decide +kernel
theorem dX2_removeFromQueue_21 : decode cX2_removeFromQueue 21 = .ok (.getfield 24, 3) := by decide +kernel
theorem dX2_removeFromQueue_24 : decode cX2_removeFromQueue 24 = .ok (.iload_n 2, 1) := by decide +kernel
theorem dX2_removeFromQueue_25 : decode cX2_removeFromQueue 25 = .ok (.aload_n 0, 1) := by decide +kernel
theorem dX2_removeFromQueue_26 : decode cX2_removeFromQueue 26 = .ok (.getfield 24, 3) := by decide +kernel
theorem dX2_removeFromQueue_29 : decode cX2_removeFromQueue 29 = .ok (.iload_n 2, 1) := by decide +kernel
theorem dX2_removeFromQueue_30 : decode cX2_removeFromQueue 30 = .ok (.iconst 1, 1) := by decide +kernel
theorem dX2_removeFromQueue_31 : decode cX2_removeFromQueue 31 = .ok (.iadd, 1) := by decide +kernel
theorem dX2_removeFromQueue_32 : decode cX2_removeFromQueue 32 = .ok (.iaload, 1) := by decide +kernel
theorem dX2_removeFromQueue_33 : decode cX2_removeFromQueue 33 = .ok (.iastore, 1) := by decide +kernel
theorem dX2_removeFromQueue_34 : decode cX2_removeFromQueue 34 = .ok (.iinc 2 1, 3) := by decide +kernel
theorem dX2_removeFromQueue_37 : decode cX2_removeFromQueue 37 = .ok (.goto (-25), 3) := by decide +kernel
theorem dX2_removeFromQueue_40 : decode cX2_removeFromQueue 40 = .ok (.return_, 1) := by decide +kernel
theorem dX3_init_0 : decode cX3_init 0 = .ok (.aload_n 0, 1) := by decide +kernel
theorem dX3_init_1 : decode cX3_init 1 = .ok (.invokespecial 3, 3) := by decide +kernel
theorem dX3_init_4 : decode cX3_init 4 = .ok (.aload_n 0, 1) := by decide +kernel
theorem dX3_init_5 : decode cX3_init 5 = .ok (.bipush 7, 2) := by decide +kernel
theorem dX3_init_7 : decode cX3_init 7 = .ok (.anewarray 11, 3) := by decide +kernel
theorem dX3_init_10 : decode cX3_init 10 = .ok (.putfield 13, 3) := by decide +kernel
theorem dX3_init_13 : decode cX3_init 13 = .ok (.iconst 0, 1) := by decide +kernel
theorem dX3_init_14 : decode cX3_init 14 = .ok (.istore_n 1, 1) := by decide +kernel
theorem dX3_init_15 : decode cX3_init 15 = .ok (.iload_n 1, 1) := by decide +kernel
theorem dX3_init_16 : decode cX3_init 16 = .ok (.bipush 7, 2) := by decide +kernel
theorem dX3_init_18 : decode cX3_init 18 = .ok (.if_icmp .ge 22, 3) := by decide +kernel
theorem dX3_init_21 : decode cX3_init 21 = .ok (.aload_n 0, 1) := by decide +kernel
theorem dX3_init_22 : decode cX3_init 22 = .ok (.getfield 13, 3) := by decide +kernel
theorem dX3_init_25 : decode cX3_init 25 = .ok (.iload_n 1, 1) := by decide +kernel
theorem dX3_init_26 : decode cX3_init 26 = .ok (.new 11, 3) := by decide +kernel
theorem dX3_init_29 : decode cX3_init 29 = .ok (.dup, 1) := by decide +kernel
theorem dX3_init_30 : decode cX3_init 30 = .ok (.invokespecial 17, 3) := by decide +kernel
theorem dX3_init_33 : decode cX3_init 33 = .ok (.aastore, 1) := by decide +kernel
theorem dX3_init_34 : decode cX3_init 34 = .ok (.iinc 1 1, 3) := by decide +kernel
theorem dX3_init_37 : decode cX3_init 37 = .ok (.goto (-22), 3) := by decide +kernel
theorem dX3_init_40 : decode cX3_init 40 = .ok (.return_, 1) := by decide +kernel
theorem dX3_stateAt_0 : decode cX3_stateAt 0 = .ok (.aload_n 0, 1) := by decide +kernel
theorem dX3_stateAt_1 : decode cX3_stateAt 1 = .ok (.getfield 13, 3) := by decide +kernel
theorem dX3_stateAt_4 : decode cX3_stateAt 4 = .ok (.aload_n 0, 1) := by decide +kernel
theorem dX3_stateAt_5 : decode cX3_stateAt 5 = .ok (.getfield 18, 3) := by decide +kernel
theorem dX3_stateAt_8 : decode cX3_stateAt 8 = .ok (.iload_n 1, 1) := by decide +kernel
theorem dX3_stateAt_9 : decode cX3_stateAt 9 = .ok (.iadd, 1) := by decide +kernel
theorem dX3_stateAt_10 : decode cX3_stateAt 10 = .ok (.bipush 7, 2) := by decide +kernel
theorem dX3_stateAt_12 : decode cX3_stateAt 12 = .ok (.invokestatic 22, 3) := by decide +kernel
theorem dX3_stateAt_15 : decode cX3_stateAt 15 = .ok (.aaload, 1) := by decide +kernel
theorem dX3_stateAt_16 : decode cX3_stateAt 16 = .ok (.areturn, 1) := by decide +kernel
theorem dX3_prepare_0 : decode cX3_prepare 0 = .ok (.aload_n 0, 1) := by decide +kernel
theorem dX3_prepare_1 : decode cX3_prepare 1 = .ok (.aload_n 0, 1) := by decide +kernel
theorem dX3_prepare_2 : decode cX3_prepare 2 = .ok (.getfield 28, 3) := by decide +kernel
theorem dX3_prepare_5 : decode cX3_prepare 5 = .ok (.invokevirtual 31, 3) := by decide +kernel
theorem dX3_prepare_8 : decode cX3_prepare 8 = .ok (.aload_n 1, 1) := by decide +kernel
theorem dX3_prepare_9 : decode cX3_prepare 9 = .ok (.invokevirtual 35, 3) := by decide +kernel
theorem dX3_prepare_12 : decode cX3_prepare 12 = .ok (.return_, 1) := by decide +kernel
theorem dX3_settle_0 : decode cX3_settle 0 = .ok (.iload_n 1, 1) := by decide +kernel
theorem dX3_settle_1 : decode cX3_settle 1 = .ok (.ifCond .ge 5, 3) := by decide +kernel
theorem dX3_settle_4 : decode cX3_settle 4 = .ok (.iload_n 1, 1) := by decide +kernel
theorem dX3_settle_5 : decode cX3_settle 5 = .ok (.ireturn, 1) := by decide +kernel
theorem dX3_settle_6 : decode cX3_settle 6 = .ok (.aload_n 0, 1) := by decide +kernel
theorem dX3_settle_7 : decode cX3_settle 7 = .ok (.getfield 28, 3) := by decide +kernel
theorem dX3_settle_10 : decode cX3_settle 10 = .ok (.bipush 6, 2) := by decide +kernel
theorem dX3_settle_12 : decode cX3_settle 12 = .ok (.if_icmp .ge 16, 3) := by decide +kernel
theorem dX3_settle_15 : decode cX3_settle 15 = .ok (.aload_n 0, 1) := by decide +kernel
theorem dX3_settle_16 : decode cX3_settle 16 = .ok (.dup, 1) := by decide +kernel
theorem dX3_settle_17 : decode cX3_settle 17 = .ok (.getfield 28, 3) := by decide +kernel
theorem dX3_settle_20 : decode cX3_settle 20 = .ok (.iconst 1, 1) := by decide +kernel
theorem dX3_settle_21 : decode cX3_settle 21 = .ok (.iadd, 1) := by decide +kernel
theorem dX3_settle_22 : decode cX3_settle 22 = .ok (.putfield 28, 3) := by decide +kernel
theorem dX3_settle_25 : decode cX3_settle 25 = .ok (.goto 18, 3) := by decide +kernel
theorem dX3_settle_28 : decode cX3_settle 28 = .ok (.aload_n 0, 1) := by decide +kernel
theorem dX3_settle_29 : decode cX3_settle 29 = .ok (.aload_n 0, 1) := by decide +kernel
theorem dX3_settle_30 : decode cX3_settle 30 = .ok (.getfield 18, 3) := by decide +kernel
theorem dX3_settle_33 : decode cX3_settle 33 = .ok (.iconst 1, 1) := by decide +kernel
theorem dX3_settle_34 : decode cX3_settle 34 = .ok (.iadd, 1) := by decide +kernel
theorem dX3_settle_35 : decode cX3_settle 35 = .ok (.bipush 7, 2) := by decide +kernel
theorem dX3_settle_37 : decode cX3_settle 37 = .ok (.invokestatic 22, 3) := by decide +kernel
theorem dX3_settle_40 : decode cX3_settle 40 = .ok (.putfield 18, 3) := by decide +kernel
theorem dX3_settle_43 : decode cX3_settle 43 = .ok (.iload_n 1, 1) := by decide +kernel
theorem dX3_settle_44 : decode cX3_settle 44 = .ok (.ireturn, 1) := by decide +kernel
theorem dX3_takeBack_0 : decode cX3_takeBack 0 = .ok (.aload_n 0, 1) := by decide +kernel
theorem dX3_takeBack_1 : decode cX3_takeBack 1 = .ok (.getfield 28, 3) := by decide +kernel
theorem dX3_takeBack_4 : decode cX3_takeBack 4 = .ok (.ifCond .ne 6, 3) := by decide +kernel
theorem dX3_takeBack_7 : decode cX3_takeBack 7 = .ok (.bipush (-5), 2) := by decide +kernel
theorem dX3_takeBack_9 : decode cX3_takeBack 9 = .ok (.ireturn, 1) := by decide +kernel
theorem dX3_takeBack_10 : decode cX3_takeBack 10 = .ok (.aload_n 0, 1) := by decide +kernel
theorem dX3_takeBack_11 : decode cX3_takeBack 11 = .ok (.dup, 1) := by decide +kernel
theorem dX3_takeBack_12 : decode cX3_takeBack 12 = .ok (.getfield 28, 3) := by decide +kernel
theorem dX3_takeBack_15 : decode cX3_takeBack 15 = .ok (.iconst 1, 1) := by decide +kernel
theorem dX3_takeBack_16 : decode cX3_takeBack 16 = .ok (.isub, 1) := by decide +kernel
theorem dX3_takeBack_17 : decode cX3_takeBack 17 = .ok (.putfield 28, 3) := by decide +kernel
theorem dX3_takeBack_20 : decode cX3_takeBack 20 = .ok (.aload_n 1, 1) := by decide +kernel
theorem dX3_takeBack_21 : decode cX3_takeBack 21 = .ok (.aload_n 0, 1) := by decide +kernel
theorem dX3_takeBack_22 : decode cX3_takeBack 22 = .ok (.aload_n 0, 1) := by decide +kernel
theorem dX3_takeBack_23 : decode cX3_takeBack 23 = .ok (.getfield 28, 3) := by decide +kernel
theorem dX3_takeBack_26 : decode cX3_takeBack 26 = .ok (.invokevirtual 31, 3) := by decide +kernel
theorem dX3_takeBack_29 : decode cX3_takeBack 29 = .ok (.invokevirtual 35, 3) := by decide +kernel
theorem dX3_takeBack_32 : decode cX3_takeBack 32 = .ok (.aload_n 0, 1) := by decide +kernel
theorem dX3_takeBack_33 : decode cX3_takeBack 33 = .ok (.getfield 28, 3) := by decide +kernel
theorem dX3_takeBack_36 : decode cX3_takeBack 36 = .ok (.ireturn, 1) := by decide +kernel
theorem dX4_init_0 : decode cX4_init 0 = .ok (.aload_n 0, 1) := by decide +kernel
theorem dX4_init_1 : decode cX4_init 1 = .ok (.invokespecial 3, 3) := by decide +kernel
theorem dX4_init_4 : decode cX4_init 4 = .ok (.aload_n 0, 1) := by decide +kernel
theorem dX4_init_5 : decode cX4_init 5 = .ok (.bipush 80, 2) := by decide +kernel
theorem dX4_init_7 : decode cX4_init 7 = .ok (.newarray .int, 2) := by decide +kernel
theorem dX4_init_9 : decode cX4_init 9 = .ok (.putfield 9, 3) := by decide +kernel
theorem dX4_init_12 : decode cX4_init 12 = .ok (.aload_n 0, 1) := by decide +kernel
theorem dX4_init_13 : decode cX4_init 13 = .ok (.iconst 3, 1) := by decide +kernel
theorem dX4_init_14 : decode cX4_init 14 = .ok (.newarray .int, 2) := by decide +kernel
theorem dX4_init_16 : decode cX4_init 16 = .ok (.putfield 15, 3) := by decide +kernel
theorem dX4_init_19 : decode cX4_init 19 = .ok (.return_, 1) := by decide +kernel
theorem dX4_append_0 : decode cX4_append 0 = .ok (.lload_n 1, 1) := by decide +kernel
theorem dX4_append_1 : decode cX4_append 1 = .ok (.invokestatic 18, 3) := by decide +kernel
theorem dX4_append_4 : decode cX4_append 4 = .ok (.istore_n 3, 1) := by decide +kernel
theorem dX4_append_5 : decode cX4_append 5 = .ok (.iload_n 3, 1) := by decide +kernel
theorem dX4_append_6 : decode cX4_append 6 = .ok (.ifCond .ne 6, 3) := by decide +kernel
theorem dX4_append_9 : decode cX4_append 9 = .ok (.bipush (-2), 2) := by decide +kernel
theorem dX4_append_11 : decode cX4_append 11 = .ok (.ireturn, 1) := by decide +kernel
theorem dX4_append_12 : decode cX4_append 12 = .ok (.aload_n 0, 1) := by decide +kernel
theorem dX4_append_13 : decode cX4_append 13 = .ok (.getfield 22, 3) := by decide +kernel
theorem dX4_append_16 : decode cX4_append 16 = .ok (.iload_n 3, 1) := by decide +kernel
theorem dX4_append_17 : decode cX4_append 17 = .ok (.iadd, 1) := by decide +kernel
theorem dX4_append_18 : decode cX4_append 18 = .ok (.bipush 80, 2) := by decide +kernel
theorem dX4_append_20 : decode cX4_append 20 = .ok (.if_icmp .le 6, 3) := by decide +kernel
theorem dX4_append_23 : decode cX4_append 23 = .ok (.bipush (-4), 2) := by decide +kernel
theorem dX4_append_25 : decode cX4_append 25 = .ok (.ireturn, 1) := by decide +kernel
theorem dX4_append_26 : decode cX4_append 26 = .ok (.iload_n 3, 1) := by decide +kernel
theorem dX4_append_27 : decode cX4_append 27 = .ok (.iconst 1, 1) := by decide +kernel
theorem dX4_append_28 : decode cX4_append 28 = .ok (.isub, 1) := by decide +kernel
theorem dX4_append_29 : decode cX4_append 29 = .ok (.istore 4, 2) := by decide +kernel
theorem dX4_append_31 : decode cX4_append 31 = .ok (.iload 4, 2) := by decide +kernel
theorem dX4_append_33 : decode cX4_append 33 = .ok (.ifCond .lt 40, 3) := by decide +kernel
theorem dX4_append_36 : decode cX4_append 36 = .ok (.aload_n 0, 1) := by decide +kernel
theorem dX4_append_37 : decode cX4_append 37 = .ok (.getfield 9, 3) := by decide +kernel
theorem dX4_append_40 : decode cX4_append 40 = .ok (.aload_n 0, 1) := by decide +kernel
theorem dX4_append_41 : decode cX4_append 41 = .ok (.getfield 22, 3) := by decide +kernel
theorem dX4_append_44 : decode cX4_append 44 = .ok (.lload_n 1, 1) := by decide +kernel
theorem dX4_append_45 : decode cX4_append 45 = .ok (.bipush 8, 2) := by decide +kernel
theorem dX4_append_47 : decode cX4_append 47 = .ok (.iload 4, 2) := by decide +kernel
theorem dX4_append_49 : decode cX4_append 49 = .ok (.imul, 1) := by decide +kernel
theorem dX4_append_50 : decode cX4_append 50 = .ok (.lushr, 1) := by decide +kernel
theorem dX4_append_51 : decode cX4_append 51 = .ok (.l2i, 1) := by decide +kernel
theorem dX4_append_52 : decode cX4_append 52 = .ok (.sipush 255, 3) := by decide +kernel
theorem dX4_append_55 : decode cX4_append 55 = .ok (.iand, 1) := by decide +kernel
theorem dX4_append_56 : decode cX4_append 56 = .ok (.iastore, 1) := by decide +kernel
theorem dX4_append_57 : decode cX4_append 57 = .ok (.aload_n 0, 1) := by decide +kernel
theorem dX4_append_58 : decode cX4_append 58 = .ok (.dup, 1) := by decide +kernel
theorem dX4_append_59 : decode cX4_append 59 = .ok (.getfield 22, 3) := by decide +kernel
theorem dX4_append_62 : decode cX4_append 62 = .ok (.iconst 1, 1) := by decide +kernel
theorem dX4_append_63 : decode cX4_append 63 = .ok (.iadd, 1) := by decide +kernel
theorem dX4_append_64 : decode cX4_append 64 = .ok (.putfield 22, 3) := by decide +kernel
theorem dX4_append_67 : decode cX4_append 67 = .ok (.iinc 4 (-1), 3) := by decide +kernel
theorem dX4_append_70 : decode cX4_append 70 = .ok (.goto (-39), 3) := by decide +kernel
theorem dX4_append_73 : decode cX4_append 73 = .ok (.aload_n 0, 1) := by decide +kernel
theorem dX4_append_74 : decode cX4_append 74 = .ok (.getfield 22, 3) := by decide +kernel
theorem dX4_append_77 : decode cX4_append 77 = .ok (.ireturn, 1) := by decide +kernel
theorem dX4_charactersIn_0 : decode cX4_charactersIn 0 = .ok (.lload_n 0, 1) := by decide +kernel
theorem dX4_charactersIn_1 : decode cX4_charactersIn 1 = .ok (.lstore_n 2, 1) := by decide +kernel
theorem dX4_charactersIn_2 : decode cX4_charactersIn 2 = .ok (.iconst 0, 1) := by decide +kernel
theorem dX4_charactersIn_3 : decode cX4_charactersIn 3 = .ok (.istore 4, 2) := by decide +kernel
theorem dX4_charactersIn_5 : decode cX4_charactersIn 5 = .ok (.iload 4, 2) := by decide +kernel
theorem dX4_charactersIn_7 : decode cX4_charactersIn 7 = .ok (.bipush 8, 2) := by decide +kernel
theorem dX4_charactersIn_9 : decode cX4_charactersIn 9 = .ok (.if_icmp .ge 42, 3) := by decide +kernel
theorem dX4_charactersIn_12 : decode cX4_charactersIn 12 = .ok (.lload_n 2, 1) := by decide +kernel
theorem dX4_charactersIn_13 : decode cX4_charactersIn 13 = .ok (.ldc2_w 26, 3) := by decide +kernel
theorem dX4_charactersIn_16 : decode cX4_charactersIn 16 = .ok (.land, 1) := by decide +kernel
theorem dX4_charactersIn_17 : decode cX4_charactersIn 17 = .ok (.lconst 0, 1) := by decide +kernel
theorem dX4_charactersIn_18 : decode cX4_charactersIn 18 = .ok (.lcmp, 1) := by decide +kernel
theorem dX4_charactersIn_19 : decode cX4_charactersIn 19 = .ok (.ifCond .eq 32, 3) := by decide +kernel
theorem dX4_charactersIn_22 : decode cX4_charactersIn 22 = .ok (.lload_n 2, 1) := by decide +kernel
theorem dX4_charactersIn_23 : decode cX4_charactersIn 23 = .ok (.ldc2_w 26, 3) := by decide +kernel
theorem dX4_charactersIn_26 : decode cX4_charactersIn 26 = .ok (.land, 1) := by decide +kernel
theorem dX4_charactersIn_27 : decode cX4_charactersIn 27 = .ok (.l2i, 1) := by decide +kernel
theorem dX4_charactersIn_28 : decode cX4_charactersIn 28 = .ok (.bipush 33, 2) := by decide +kernel
theorem dX4_charactersIn_30 : decode cX4_charactersIn 30 = .ok (.bipush 126, 2) := by decide +kernel
theorem dX4_charactersIn_32 : decode cX4_charactersIn 32 = .ok (.invokestatic 28, 3) := by decide +kernel
theorem dX4_charactersIn_35 : decode cX4_charactersIn 35 = .ok (.ifCond .ne 5, 3) := by decide +kernel
theorem dX4_charactersIn_38 : decode cX4_charactersIn 38 = .ok (.iconst 0, 1) := by decide +kernel
theorem dX4_charactersIn_39 : decode cX4_charactersIn 39 = .ok (.ireturn, 1) := by decide +kernel
theorem dX4_charactersIn_40 : decode cX4_charactersIn 40 = .ok (.lload_n 2, 1) := by decide +kernel
theorem dX4_charactersIn_41 : decode cX4_charactersIn 41 = .ok (.bipush 8, 2) := by decide +kernel
theorem dX4_charactersIn_43 : decode cX4_charactersIn 43 = .ok (.lushr, 1) := by decide +kernel
theorem dX4_charactersIn_44 : decode cX4_charactersIn 44 = .ok (.lstore_n 2, 1) := by decide +kernel
theorem dX4_charactersIn_45 : decode cX4_charactersIn 45 = .ok (.iinc 4 1, 3) := by decide +kernel
theorem dX4_charactersIn_48 : decode cX4_charactersIn 48 = .ok (.goto (-43), 3) := by decide +kernel
theorem dX4_charactersIn_51 : decode cX4_charactersIn 51 = .ok (.lload_n 2, 1) := by decide +kernel
theorem dX4_charactersIn_52 : decode cX4_charactersIn 52 = .ok (.lconst 0, 1) := by decide +kernel
theorem dX4_charactersIn_53 : decode cX4_charactersIn 53 = .ok (.lcmp, 1) := by decide +kernel
theorem dX4_charactersIn_54 : decode cX4_charactersIn 54 = .ok (.ifCond .ne 8, 3) := by decide +kernel
theorem dX4_charactersIn_57 : decode cX4_charactersIn 57 = .ok (.iload 4, 2) := by decide +kernel
theorem dX4_charactersIn_59 : decode cX4_charactersIn 59 = .ok (.goto 4, 3) := by decide +kernel
theorem dX4_charactersIn_62 : decode cX4_charactersIn 62 = .ok (.iconst 0, 1) := by decide +kernel
theorem dX4_charactersIn_63 : decode cX4_charactersIn 63 = .ok (.ireturn, 1) := by decide +kernel
theorem dX4_clear_0 : decode cX4_clear 0 = .ok (.aload_n 0, 1) := by decide +kernel
theorem dX4_clear_1 : decode cX4_clear 1 = .ok (.getfield 22, 3) := by decide +kernel
theorem dX4_clear_4 : decode cX4_clear 4 = .ok (.istore_n 1, 1) := by decide +kernel
theorem dX4_clear_5 : decode cX4_clear 5 = .ok (.aload_n 0, 1) := by decide +kernel
theorem dX4_clear_6 : decode cX4_clear 6 = .ok (.iconst 0, 1) := by decide +kernel
theorem dX4_clear_7 : decode cX4_clear 7 = .ok (.putfield 22, 3) := by decide +kernel
theorem dX4_clear_10 : decode cX4_clear 10 = .ok (.iload_n 1, 1) := by decide +kernel
theorem dX4_clear_11 : decode cX4_clear 11 = .ok (.ireturn, 1) := by decide +kernel
theorem dX4_faultPlace_0 : decode cX4_faultPlace 0 = .ok (.aload_n 0, 1) := by decide +kernel
theorem dX4_faultPlace_1 : decode cX4_faultPlace 1 = .ok (.invokevirtual 32, 3) := by decide +kernel
theorem dX4_faultPlace_4 : decode cX4_faultPlace 4 = .ok (.iconst 0, 1) := by decide +kernel
theorem dX4_faultPlace_5 : decode cX4_faultPlace 5 = .ok (.istore_n 1, 1) := by decide +kernel
theorem dX4_faultPlace_6 : decode cX4_faultPlace 6 = .ok (.iload_n 1, 1) := by decide +kernel
theorem dX4_faultPlace_7 : decode cX4_faultPlace 7 = .ok (.bipush 80, 2) := by decide +kernel
theorem dX4_faultPlace_9 : decode cX4_faultPlace 9 = .ok (.if_icmp .ge 47, 3) := by decide +kernel
theorem dX4_faultPlace_12 : decode cX4_faultPlace 12 = .ok (.aload_n 0, 1) := by decide +kernel
theorem dX4_faultPlace_13 : decode cX4_faultPlace 13 = .ok (.invokevirtual 35, 3) := by decide +kernel
theorem dX4_faultPlace_16 : decode cX4_faultPlace 16 = .ok (.ifCond .ne 8, 3) := by decide +kernel
theorem dX4_faultPlace_19 : decode cX4_faultPlace 19 = .ok (.aload_n 0, 1) := by decide +kernel
theorem dX4_faultPlace_20 : decode cX4_faultPlace 20 = .ok (.getfield 39, 3) := by decide +kernel
theorem dX4_faultPlace_23 : decode cX4_faultPlace 23 = .ok (.ireturn, 1) := by decide +kernel
theorem dX4_faultPlace_24 : decode cX4_faultPlace 24 = .ok (.aload_n 0, 1) := by decide +kernel
theorem dX4_faultPlace_25 : decode cX4_faultPlace 25 = .ok (.getfield 39, 3) := by decide +kernel
theorem dX4_faultPlace_28 : decode cX4_faultPlace 28 = .ok (.aload_n 0, 1) := by decide +kernel
theorem dX4_faultPlace_29 : decode cX4_faultPlace 29 = .ok (.getfield 22, 3) := by decide +kernel
theorem dX4_faultPlace_32 : decode cX4_faultPlace 32 = .ok (.if_icmp .ne 6, 3) := by decide +kernel
theorem dX4_faultPlace_35 : decode cX4_faultPlace 35 = .ok (.bipush (-6), 2) := by decide +kernel
theorem dX4_faultPlace_37 : decode cX4_faultPlace 37 = .ok (.ireturn, 1) := by decide +kernel
theorem dX4_faultPlace_38 : decode cX4_faultPlace 38 = .ok (.aload_n 0, 1) := by decide +kernel
theorem dX4_faultPlace_39 : decode cX4_faultPlace 39 = .ok (.invokevirtual 42, 3) := by decide +kernel
theorem dX4_faultPlace_42 : decode cX4_faultPlace 42 = .ok (.ifCond .ne 8, 3) := by decide +kernel
theorem dX4_faultPlace_45 : decode cX4_faultPlace 45 = .ok (.aload_n 0, 1) := by decide +kernel
theorem dX4_faultPlace_46 : decode cX4_faultPlace 46 = .ok (.getfield 39, 3) := by decide +kernel
theorem dX4_faultPlace_49 : decode cX4_faultPlace 49 = .ok (.ireturn, 1) := by decide +kernel
theorem dX4_faultPlace_50 : decode cX4_faultPlace 50 = .ok (.iinc 1 1, 3) := by decide +kernel
theorem dX4_faultPlace_53 : decode cX4_faultPlace 53 = .ok (.goto (-47), 3) := by decide +kernel
theorem dX4_faultPlace_56 : decode cX4_faultPlace 56 = .ok (.aload_n 0, 1) := by decide +kernel
theorem dX4_faultPlace_57 : decode cX4_faultPlace 57 = .ok (.getfield 39, 3) := by decide +kernel
theorem dX4_faultPlace_60 : decode cX4_faultPlace 60 = .ok (.ireturn, 1) := by decide +kernel
theorem dX4_startReading_0 : decode cX4_startReading 0 = .ok (.aload_n 0, 1) := by decide +kernel
theorem dX4_startReading_1 : decode cX4_startReading 1 = .ok (.iconst 0, 1) := by decide +kernel
theorem dX4_startReading_2 : decode cX4_startReading 2 = .ok (.putfield 39, 3) := by decide +kernel
theorem dX4_startReading_5 : decode cX4_startReading 5 = .ok (.return_, 1) := by decide +kernel
theorem dX4_readSeparator_0 : decode cX4_readSeparator 0 = .ok (.aload_n 0, 1) := by decide +kernel
theorem dX4_readSeparator_1 : decode cX4_readSeparator 1 = .ok (.bipush 59, 2) := by decide +kernel
theorem dX4_readSeparator_3 : decode cX4_readSeparator 3 = .ok (.invokevirtual 45, 3) := by decide +kernel
theorem dX4_readSeparator_6 : decode cX4_readSeparator 6 = .ok (.ireturn, 1) := by decide +kernel
theorem dX4_readOrder_0 : decode cX4_readOrder 0 = .ok (.aload_n 0, 1) := by decide +kernel
theorem dX4_readOrder_1 : decode cX4_readOrder 1 = .ok (.aload_n 0, 1) := by decide +kernel
theorem dX4_readOrder_2 : decode cX4_readOrder 2 = .ok (.invokevirtual 49, 3) := by decide +kernel
theorem dX4_readOrder_5 : decode cX4_readOrder 5 = .ok (.putfield 53, 3) := by decide +kernel
theorem dX4_readOrder_8 : decode cX4_readOrder 8 = .ok (.aload_n 0, 1) := by decide +kernel
theorem dX4_readOrder_9 : decode cX4_readOrder 9 = .ok (.getfield 53, 3) := by decide +kernel
theorem dX4_readOrder_12 : decode cX4_readOrder 12 = .ok (.invokestatic 56, 3) := by decide +kernel
theorem dX4_readOrder_15 : decode cX4_readOrder 15 = .ok (.astore_n 1, 1) := by decide +kernel
theorem dX4_readOrder_16 : decode cX4_readOrder 16 = .ok (.aload_n 1, 1) := by decide +kernel
theorem dX4_readOrder_17 : decode cX4_readOrder 17 = .ok (.invokevirtual 60, 3) := by decide +kernel
theorem dX4_readOrder_20 : decode cX4_readOrder 20 = .ok (.ifCond .eq 5, 3) := by decide +kernel
theorem dX4_readOrder_23 : decode cX4_readOrder 23 = .ok (.iconst 0, 1) := by decide +kernel
theorem dX4_readOrder_24 : decode cX4_readOrder 24 = .ok (.ireturn, 1) := by decide +kernel
theorem dX4_readOrder_25 : decode cX4_readOrder 25 = .ok (.aload_n 0, 1) := by decide +kernel
theorem dX4_readOrder_26 : decode cX4_readOrder 26 = .ok (.dup, 1) := by decide +kernel
theorem dX4_readOrder_27 : decode cX4_readOrder 27 = .ok (.getfield 39, 3) := by decide +kernel
theorem dX4_readOrder_30 : decode cX4_readOrder 30 = .ok (.iconst 1, 1) := by decide +kernel
theorem dX4_readOrder_31 : decode cX4_readOrder 31 = .ok (.iadd, 1) := by decide +kernel
theorem dX4_readOrder_32 : decode cX4_readOrder 32 = .ok (.putfield 39, 3) := by decide +kernel
theorem dX4_readOrder_35 : decode cX4_readOrder 35 = .ok (.iconst 0, 1) := by decide +kernel
theorem dX4_readOrder_36 : decode cX4_readOrder 36 = .ok (.istore_n 2, 1) := by decide +kernel
theorem dX4_readOrder_37 : decode cX4_readOrder 37 = .ok (.iconst 0, 1) := by decide +kernel
theorem dX4_readOrder_38 : decode cX4_readOrder 38 = .ok (.istore_n 3, 1) := by decide +kernel
theorem dX4_readOrder_39 : decode cX4_readOrder 39 = .ok (.iload_n 3, 1) := by decide +kernel
theorem dX4_readOrder_40 : decode cX4_readOrder 40 = .ok (.aload_n 1, 1) := by decide +kernel
theorem dX4_readOrder_41 : decode cX4_readOrder 41 = .ok (.invokevirtual 65, 3) := by decide +kernel
theorem dX4_readOrder_44 : decode cX4_readOrder 44 = .ok (.if_icmp .ge 86, 3) := by decide +kernel
theorem dX4_readOrder_47 : decode cX4_readOrder 47 = .ok (.aload_n 1, 1) := by decide +kernel
theorem dX4_readOrder_48 : decode cX4_readOrder 48 = .ok (.iload_n 3, 1) := by decide +kernel
theorem dX4_readOrder_49 : decode cX4_readOrder 49 = .ok (.invokevirtual 67, 3) := by decide +kernel
theorem dX4_readOrder_52 : decode cX4_readOrder 52 = .ok (.istore 4, 2) := by decide +kernel
theorem dX4_readOrder_54 : decode cX4_readOrder 54 = .ok (.iload 4, 2) := by decide +kernel
theorem dX4_readOrder_56 : decode cX4_readOrder 56 = .ok (.bipush 35, 2) := by decide +kernel
theorem dX4_readOrder_58 : decode cX4_readOrder 58 = .ok (.if_icmp .eq 21, 3) := by decide +kernel
theorem dX4_readOrder_61 : decode cX4_readOrder 61 = .ok (.iload 4, 2) := by decide +kernel
theorem dX4_readOrder_63 : decode cX4_readOrder 63 = .ok (.bipush 100, 2) := by decide +kernel
theorem dX4_readOrder_65 : decode cX4_readOrder 65 = .ok (.if_icmp .eq 14, 3) := by decide +kernel
theorem dX4_readOrder_68 : decode cX4_readOrder 68 = .ok (.aload_n 0, 1) := by decide +kernel
theorem dX4_readOrder_69 : decode cX4_readOrder 69 = .ok (.iload 4, 2) := by decide +kernel
theorem dX4_readOrder_71 : decode cX4_readOrder 71 = .ok (.invokevirtual 45, 3) := by decide +kernel
theorem dX4_readOrder_74 : decode cX4_readOrder 74 = .ok (.ifCond .ne 50, 3) := by decide +kernel
theorem dX4_readOrder_77 : decode cX4_readOrder 77 = .ok (.iconst 0, 1) := by decide +kernel
theorem dX4_readOrder_78 : decode cX4_readOrder 78 = .ok (.ireturn, 1) := by decide +kernel
theorem dX4_readOrder_79 : decode cX4_readOrder 79 = .ok (.iload 4, 2) := by decide +kernel
theorem dX4_readOrder_81 : decode cX4_readOrder 81 = .ok (.bipush 100, 2) := by decide +kernel
theorem dX4_readOrder_83 : decode cX4_readOrder 83 = .ok (.if_icmp .ne 10, 3) := by decide +kernel
theorem dX4_readOrder_86 : decode cX4_readOrder 86 = .ok (.aload_n 0, 1) := by decide +kernel
theorem dX4_readOrder_87 : decode cX4_readOrder 87 = .ok (.invokevirtual 71, 3) := by decide +kernel
theorem dX4_readOrder_90 : decode cX4_readOrder 90 = .ok (.goto 7, 3) := by decide +kernel
theorem dX4_readOrder_93 : decode cX4_readOrder 93 = .ok (.aload_n 0, 1) := by decide +kernel
theorem dX4_readOrder_94 : decode cX4_readOrder 94 = .ok (.invokevirtual 74, 3) := by decide +kernel
theorem dX4_readOrder_97 : decode cX4_readOrder 97 = .ok (.istore 5, 2) := by decide +kernel
theorem dX4_readOrder_99 : decode cX4_readOrder 99 = .ok (.iload 5, 2) := by decide +kernel
theorem dX4_readOrder_101 : decode cX4_readOrder 101 = .ok (.bipush (-6), 2) := by decide +kernel
theorem dX4_readOrder_103 : decode cX4_readOrder 103 = .ok (.if_icmp .eq 8, 3) := by decide +kernel
theorem dX4_readOrder_106 : decode cX4_readOrder 106 = .ok (.iload_n 2, 1) := by decide +kernel
theorem dX4_readOrder_107 : decode cX4_readOrder 107 = .ok (.iconst 3, 1) := by decide +kernel
theorem dX4_readOrder_108 : decode cX4_readOrder 108 = .ok (.if_icmp .lt 5, 3) := by decide +kernel
theorem dX4_readOrder_111 : decode cX4_readOrder 111 = .ok (.iconst 0, 1) := by decide +kernel
theorem dX4_readOrder_112 : decode cX4_readOrder 112 = .ok (.ireturn, 1) := by decide +kernel
theorem dX4_readOrder_113 : decode cX4_readOrder 113 = .ok (.aload_n 0, 1) := by decide +kernel
theorem dX4_readOrder_114 : decode cX4_readOrder 114 = .ok (.getfield 15, 3) := by decide +kernel
theorem dX4_readOrder_117 : decode cX4_readOrder 117 = .ok (.iload_n 2, 1) := by decide +kernel
theorem dX4_readOrder_118 : decode cX4_readOrder 118 = .ok (.iload 5, 2) := by decide +kernel
theorem dX4_readOrder_120 : decode cX4_readOrder 120 = .ok (.iastore, 1) := by decide +kernel
theorem dX4_readOrder_121 : decode cX4_readOrder 121 = .ok (.iinc 2 1, 3) := by decide +kernel
theorem dX4_readOrder_124 : decode cX4_readOrder 124 = .ok (.iinc 3 1, 3) := by decide +kernel
theorem dX4_readOrder_127 : decode cX4_readOrder 127 = .ok (.goto (-88), 3) := by decide +kernel
theorem dX4_readOrder_130 : decode cX4_readOrder 130 = .ok (.iconst 1, 1) := by decide +kernel
theorem dX4_readOrder_131 : decode cX4_readOrder 131 = .ok (.ireturn, 1) := by decide +kernel
theorem dX4_formOf_0 : decode cX4_formOf 0 = .ok (.iload_n 0, 1) := by decide +kernel
theorem dX4_formOf_1 : decode cX4_formOf 1 = .ok (.lookupswitch 77 #[(97, 68), (98, 59), (105, 62), (111, 65), (116, 74), (119, 71)], 59) := by decide +kernel
theorem dX4_formOf_60 : decode cX4_formOf 60 = .ok (.ldc 77, 2) := by decide +kernel
theorem dX4_formOf_62 : decode cX4_formOf 62 = .ok (.areturn, 1) := by decide +kernel
theorem dX4_formOf_63 : decode cX4_formOf 63 = .ok (.ldc 79, 2) := by decide +kernel
theorem dX4_formOf_65 : decode cX4_formOf 65 = .ok (.areturn, 1) := by decide +kernel
theorem dX4_formOf_66 : decode cX4_formOf 66 = .ok (.ldc 81, 2) := by decide +kernel
theorem dX4_formOf_68 : decode cX4_formOf 68 = .ok (.areturn, 1) := by decide +kernel
theorem dX4_formOf_69 : decode cX4_formOf 69 = .ok (.ldc 83, 2) := by decide +kernel
theorem dX4_formOf_71 : decode cX4_formOf 71 = .ok (.areturn, 1) := by decide +kernel
theorem dX4_formOf_72 : decode cX4_formOf 72 = .ok (.ldc 85, 2) := by decide +kernel
theorem dX4_formOf_74 : decode cX4_formOf 74 = .ok (.areturn, 1) := by decide +kernel
theorem dX4_formOf_75 : decode cX4_formOf 75 = .ok (.ldc 87, 2) := by decide +kernel
theorem dX4_formOf_77 : decode cX4_formOf 77 = .ok (.areturn, 1) := by decide +kernel
theorem dX4_formOf_78 : decode cX4_formOf 78 = .ok (.ldc 89, 2) := by decide +kernel
theorem dX4_formOf_80 : decode cX4_formOf 80 = .ok (.areturn, 1) := by decide +kernel
theorem dX4_signHere_0 : decode cX4_signHere 0 = .ok (.aload_n 0, 1) := by decide +kernel
theorem dX4_signHere_1 : decode cX4_signHere 1 = .ok (.getfield 39, 3) := by decide +kernel
theorem dX4_signHere_4 : decode cX4_signHere 4 = .ok (.ifCond .lt 26, 3) := by decide +kernel
theorem dX4_signHere_7 : decode cX4_signHere 7 = .ok (.aload_n 0, 1) := by decide +kernel
theorem dX4_signHere_8 : decode cX4_signHere 8 = .ok (.getfield 39, 3) := by decide +kernel
theorem dX4_signHere_11 : decode cX4_signHere 11 = .ok (.aload_n 0, 1) := by decide +kernel
theorem dX4_signHere_12 : decode cX4_signHere 12 = .ok (.getfield 22, 3) := by decide +kernel
theorem dX4_signHere_15 : decode cX4_signHere 15 = .ok (.if_icmp .ge 15, 3) := by decide +kernel
theorem dX4_signHere_18 : decode cX4_signHere 18 = .ok (.aload_n 0, 1) := by decide +kernel
theorem dX4_signHere_19 : decode cX4_signHere 19 = .ok (.getfield 9, 3) := by decide +kernel
theorem dX4_signHere_22 : decode cX4_signHere 22 = .ok (.aload_n 0, 1) := by decide +kernel
theorem dX4_signHere_23 : decode cX4_signHere 23 = .ok (.getfield 39, 3) := by decide +kernel
theorem dX4_signHere_26 : decode cX4_signHere 26 = .ok (.iaload, 1) := by decide +kernel
theorem dX4_signHere_27 : decode cX4_signHere 27 = .ok (.goto 5, 3) := by decide +kernel
theorem dX4_signHere_30 : decode cX4_signHere 30 = .ok (.bipush (-6), 2) := by decide +kernel
theorem dX4_signHere_32 : decode cX4_signHere 32 = .ok (.ireturn, 1) := by decide +kernel
theorem dX4_readSign_0 : decode cX4_readSign 0 = .ok (.aload_n 0, 1) := by decide +kernel
theorem dX4_readSign_1 : decode cX4_readSign 1 = .ok (.invokevirtual 49, 3) := by decide +kernel
theorem dX4_readSign_4 : decode cX4_readSign 4 = .ok (.iload_n 1, 1) := by decide +kernel
theorem dX4_readSign_5 : decode cX4_readSign 5 = .ok (.if_icmp .eq 5, 3) := by decide +kernel
theorem dX4_readSign_8 : decode cX4_readSign 8 = .ok (.iconst 0, 1) := by decide +kernel
theorem dX4_readSign_9 : decode cX4_readSign 9 = .ok (.ireturn, 1) := by decide +kernel
theorem dX4_readSign_10 : decode cX4_readSign 10 = .ok (.aload_n 0, 1) := by decide +kernel
theorem dX4_readSign_11 : decode cX4_readSign 11 = .ok (.dup, 1) := by decide +kernel
theorem dX4_readSign_12 : decode cX4_readSign 12 = .ok (.getfield 39, 3) := by decide +kernel
theorem dX4_readSign_15 : decode cX4_readSign 15 = .ok (.iconst 1, 1) := by decide +kernel
theorem dX4_readSign_16 : decode cX4_readSign 16 = .ok (.iadd, 1) := by decide +kernel
theorem dX4_readSign_17 : decode cX4_readSign 17 = .ok (.putfield 39, 3) := by decide +kernel
theorem dX4_readSign_20 : decode cX4_readSign 20 = .ok (.iconst 1, 1) := by decide +kernel
theorem dX4_readSign_21 : decode cX4_readSign 21 = .ok (.ireturn, 1) := by decide +kernel
theorem dX4_readDigit_0 : decode cX4_readDigit 0 = .ok (.aload_n 0, 1) := by decide +kernel
theorem dX4_readDigit_1 : decode cX4_readDigit 1 = .ok (.invokevirtual 49, 3) := by decide +kernel
theorem dX4_readDigit_4 : decode cX4_readDigit 4 = .ok (.istore_n 1, 1) := by decide +kernel
theorem dX4_readDigit_5 : decode cX4_readDigit 5 = .ok (.iload_n 1, 1) := by decide +kernel
theorem dX4_readDigit_6 : decode cX4_readDigit 6 = .ok (.bipush 48, 2) := by decide +kernel
theorem dX4_readDigit_8 : decode cX4_readDigit 8 = .ok (.bipush 57, 2) := by decide +kernel
theorem dX4_readDigit_10 : decode cX4_readDigit 10 = .ok (.invokestatic 28, 3) := by decide +kernel
theorem dX4_readDigit_13 : decode cX4_readDigit 13 = .ok (.ifCond .ne 6, 3) := by decide +kernel
theorem dX4_readDigit_16 : decode cX4_readDigit 16 = .ok (.bipush (-6), 2) := by decide +kernel
theorem dX4_readDigit_18 : decode cX4_readDigit 18 = .ok (.ireturn, 1) := by decide +kernel
theorem dX4_readDigit_19 : decode cX4_readDigit 19 = .ok (.aload_n 0, 1) := by decide +kernel
theorem dX4_readDigit_20 : decode cX4_readDigit 20 = .ok (.dup, 1) := by decide +kernel
theorem dX4_readDigit_21 : decode cX4_readDigit 21 = .ok (.getfield 39, 3) := by decide +kernel
theorem dX4_readDigit_24 : decode cX4_readDigit 24 = .ok (.iconst 1, 1) := by decide +kernel
theorem dX4_readDigit_25 : decode cX4_readDigit 25 = .ok (.iadd, 1) := by decide +kernel
theorem dX4_readDigit_26 : decode cX4_readDigit 26 = .ok (.putfield 39, 3) := by decide +kernel
theorem dX4_readDigit_29 : decode cX4_readDigit 29 = .ok (.iload_n 1, 1) := by decide +kernel
theorem dX4_readDigit_30 : decode cX4_readDigit 30 = .ok (.bipush 48, 2) := by decide +kernel
theorem dX4_readDigit_32 : decode cX4_readDigit 32 = .ok (.isub, 1) := by decide +kernel
theorem dX4_readDigit_33 : decode cX4_readDigit 33 = .ok (.ireturn, 1) := by decide +kernel
theorem dX4_readNumber_0 : decode cX4_readNumber 0 = .ok (.aload_n 0, 1) := by decide +kernel
theorem dX4_readNumber_1 : decode cX4_readNumber 1 = .ok (.invokevirtual 71, 3) := by decide +kernel
theorem dX4_readNumber_4 : decode cX4_readNumber 4 = .ok (.istore_n 1, 1) := by decide +kernel
theorem dX4_readNumber_5 : decode cX4_readNumber 5 = .ok (.iload_n 1, 1) := by decide +kernel
theorem dX4_readNumber_6 : decode cX4_readNumber 6 = .ok (.bipush (-6), 2) := by decide +kernel
theorem dX4_readNumber_8 : decode cX4_readNumber 8 = .ok (.if_icmp .eq 7, 3) := by decide +kernel
theorem dX4_readNumber_11 : decode cX4_readNumber 11 = .ok (.iload_n 1, 1) := by decide +kernel
theorem dX4_readNumber_12 : decode cX4_readNumber 12 = .ok (.ifCond .ne 5, 3) := by decide +kernel
theorem dX4_readNumber_15 : decode cX4_readNumber 15 = .ok (.iload_n 1, 1) := by decide +kernel
theorem dX4_readNumber_16 : decode cX4_readNumber 16 = .ok (.ireturn, 1) := by decide +kernel
theorem dX4_readNumber_17 : decode cX4_readNumber 17 = .ok (.aload_n 0, 1) := by decide +kernel
theorem dX4_readNumber_18 : decode cX4_readNumber 18 = .ok (.invokevirtual 71, 3) := by decide +kernel
theorem dX4_readNumber_21 : decode cX4_readNumber 21 = .ok (.istore_n 2, 1) := by decide +kernel
theorem dX4_readNumber_22 : decode cX4_readNumber 22 = .ok (.iload_n 2, 1) := by decide +kernel
theorem dX4_readNumber_23 : decode cX4_readNumber 23 = .ok (.bipush (-6), 2) := by decide +kernel
theorem dX4_readNumber_25 : decode cX4_readNumber 25 = .ok (.if_icmp .ne 7, 3) := by decide +kernel
theorem dX4_readNumber_28 : decode cX4_readNumber 28 = .ok (.iload_n 1, 1) := by decide +kernel
theorem dX4_readNumber_29 : decode cX4_readNumber 29 = .ok (.goto 9, 3) := by decide +kernel
theorem dX4_readNumber_32 : decode cX4_readNumber 32 = .ok (.bipush 10, 2) := by decide +kernel
theorem dX4_readNumber_34 : decode cX4_readNumber 34 = .ok (.iload_n 1, 1) := by decide +kernel
theorem dX4_readNumber_35 : decode cX4_readNumber 35 = .ok (.imul, 1) := by decide +kernel
theorem dX4_readNumber_36 : decode cX4_readNumber 36 = .ok (.iload_n 2, 1) := by decide +kernel
theorem dX4_readNumber_37 : decode cX4_readNumber 37 = .ok (.iadd, 1) := by decide +kernel
theorem dX4_readNumber_38 : decode cX4_readNumber 38 = .ok (.ireturn, 1) := by decide +kernel
theorem dX5_init_0 : decode cX5_init 0 = .ok (.aload_n 0, 1) := by decide +kernel
theorem dX5_init_1 : decode cX5_init 1 = .ok (.invokespecial 1, 3) := by decide +kernel
theorem dX5_init_4 : decode cX5_init 4 = .ok (.aload_n 0, 1) := by decide +kernel
theorem dX5_init_5 : decode cX5_init 5 = .ok (.new 7, 3) := by decide +kernel
theorem dX5_init_8 : decode cX5_init 8 = .ok (.dup, 1) := by decide +kernel
theorem dX5_init_9 : decode cX5_init 9 = .ok (.invokespecial 9, 3) := by decide +kernel
theorem dX5_init_12 : decode cX5_init 12 = .ok (.putfield 10, 3) := by decide +kernel
theorem dX5_init_15 : decode cX5_init 15 = .ok (.aload_n 0, 1) := by decide +kernel
theorem dX5_init_16 : decode cX5_init 16 = .ok (.new 7, 3) := by decide +kernel
theorem dX5_init_19 : decode cX5_init 19 = .ok (.dup, 1) := by decide +kernel
theorem dX5_init_20 : decode cX5_init 20 = .ok (.invokespecial 9, 3) := by decide +kernel
theorem dX5_init_23 : decode cX5_init 23 = .ok (.putfield 16, 3) := by decide +kernel
theorem dX5_init_26 : decode cX5_init 26 = .ok (.aload_n 0, 1) := by decide +kernel
theorem dX5_init_27 : decode cX5_init 27 = .ok (.new 19, 3) := by decide +kernel
theorem dX5_init_30 : decode cX5_init 30 = .ok (.dup, 1) := by decide +kernel
theorem dX5_init_31 : decode cX5_init 31 = .ok (.invokespecial 21, 3) := by decide +kernel
theorem dX5_init_34 : decode cX5_init 34 = .ok (.putfield 22, 3) := by decide +kernel
theorem dX5_init_37 : decode cX5_init 37 = .ok (.aload_n 0, 1) := by decide +kernel
theorem dX5_init_38 : decode cX5_init 38 = .ok (.new 26, 3) := by decide +kernel
theorem dX5_init_41 : decode cX5_init 41 = .ok (.dup, 1) := by decide +kernel
theorem dX5_init_42 : decode cX5_init 42 = .ok (.invokespecial 28, 3) := by decide +kernel
theorem dX5_init_45 : decode cX5_init 45 = .ok (.putfield 29, 3) := by decide +kernel
theorem dX5_init_48 : decode cX5_init 48 = .ok (.aload_n 0, 1) := by decide +kernel
theorem dX5_init_49 : decode cX5_init 49 = .ok (.iconst 2, 1) := by decide +kernel
theorem dX5_init_50 : decode cX5_init 50 = .ok (.anewarray 7, 3) := by decide +kernel
theorem dX5_init_53 : decode cX5_init 53 = .ok (.putfield 33, 3) := by decide +kernel
theorem dX5_init_56 : decode cX5_init 56 = .ok (.iconst 0, 1) := by decide +kernel
theorem dX5_init_57 : decode cX5_init 57 = .ok (.istore_n 1, 1) := by decide +kernel
theorem dX5_init_58 : decode cX5_init 58 = .ok (.iload_n 1, 1) := by decide +kernel
theorem dX5_init_59 : decode cX5_init 59 = .ok (.iconst 2, 1) := by decide +kernel
theorem dX5_init_60 : decode cX5_init 60 = .ok (.if_icmp .ge 22, 3) := by decide +kernel
theorem dX5_init_63 : decode cX5_init 63 = .ok (.aload_n 0, 1) := by decide +kernel
theorem dX5_init_64 : decode cX5_init 64 = .ok (.getfield 33, 3) := by decide +kernel
theorem dX5_init_67 : decode cX5_init 67 = .ok (.iload_n 1, 1) := by decide +kernel
theorem dX5_init_68 : decode cX5_init 68 = .ok (.new 7, 3) := by decide +kernel
theorem dX5_init_71 : decode cX5_init 71 = .ok (.dup, 1) := by decide +kernel
theorem dX5_init_72 : decode cX5_init 72 = .ok (.invokespecial 9, 3) := by decide +kernel
theorem dX5_init_75 : decode cX5_init 75 = .ok (.aastore, 1) := by decide +kernel
theorem dX5_init_76 : decode cX5_init 76 = .ok (.iinc 1 1, 3) := by decide +kernel
theorem dX5_init_79 : decode cX5_init 79 = .ok (.goto (-21), 3) := by decide +kernel
theorem dX5_init_82 : decode cX5_init 82 = .ok (.aload_n 0, 1) := by decide +kernel
theorem dX5_init_83 : decode cX5_init 83 = .ok (.iconst 2, 1) := by decide +kernel
theorem dX5_init_84 : decode cX5_init 84 = .ok (.newarray .boolean, 2) := by decide +kernel
theorem dX5_init_86 : decode cX5_init 86 = .ok (.putfield 37, 3) := by decide +kernel
theorem dX5_init_89 : decode cX5_init 89 = .ok (.return_, 1) := by decide +kernel
theorem dX5_set_0 : decode cX5_set 0 = .ok (.aload_n 0, 1) := by decide +kernel
theorem dX5_set_1 : decode cX5_set 1 = .ok (.getfield 22, 3) := by decide +kernel
theorem dX5_set_4 : decode cX5_set 4 = .ok (.aload_n 0, 1) := by decide +kernel
theorem dX5_set_5 : decode cX5_set 5 = .ok (.getfield 10, 3) := by decide +kernel
theorem dX5_set_8 : decode cX5_set 8 = .ok (.invokevirtual 41, 3) := by decide +kernel
theorem dX5_set_11 : decode cX5_set 11 = .ok (.aload_n 0, 1) := by decide +kernel
theorem dX5_set_12 : decode cX5_set 12 = .ok (.getfield 22, 3) := by decide +kernel
theorem dX5_set_15 : decode cX5_set 15 = .ok (.aload_n 0, 1) := by decide +kernel
theorem dX5_set_16 : decode cX5_set 16 = .ok (.getfield 10, 3) := by decide +kernel
theorem dX5_set_19 : decode cX5_set 19 = .ok (.iload_n 1, 1) := by decide +kernel
theorem dX5_set_20 : decode cX5_set 20 = .ok (.iload_n 2, 1) := by decide +kernel
theorem dX5_set_21 : decode cX5_set 21 = .ok (.invokevirtual 45, 3) := by decide +kernel
theorem dX5_set_24 : decode cX5_set 24 = .ok (.invokevirtual 49, 3) := by decide +kernel
theorem dX5_set_27 : decode cX5_set 27 = .ok (.ireturn, 1) := by decide +kernel
theorem dX5_board_0 : decode cX5_board 0 = .ok (.aload_n 0, 1) := by decide +kernel
theorem dX5_board_1 : decode cX5_board 1 = .ok (.getfield 22, 3) := by decide +kernel
theorem dX5_board_4 : decode cX5_board 4 = .ok (.aload_n 0, 1) := by decide +kernel
theorem dX5_board_5 : decode cX5_board 5 = .ok (.getfield 10, 3) := by decide +kernel
theorem dX5_board_8 : decode cX5_board 8 = .ok (.invokevirtual 41, 3) := by decide +kernel
theorem dX5_board_11 : decode cX5_board 11 = .ok (.aload_n 0, 1) := by decide +kernel
theorem dX5_board_12 : decode cX5_board 12 = .ok (.getfield 22, 3) := by decide +kernel
theorem dX5_board_15 : decode cX5_board 15 = .ok (.aload_n 0, 1) := by decide +kernel
theorem dX5_board_16 : decode cX5_board 16 = .ok (.getfield 10, 3) := by decide +kernel
theorem dX5_board_19 : decode cX5_board 19 = .ok (.iload_n 1, 1) := by decide +kernel
theorem dX5_board_20 : decode cX5_board 20 = .ok (.iload_n 2, 1) := by decide +kernel
theorem dX5_board_21 : decode cX5_board 21 = .ok (.invokevirtual 53, 3) := by decide +kernel
theorem dX5_board_24 : decode cX5_board 24 = .ok (.invokevirtual 49, 3) := by decide +kernel
theorem dX5_board_27 : decode cX5_board 27 = .ok (.ireturn, 1) := by decide +kernel
theorem dX5_plug_0 : decode cX5_plug 0 = .ok (.aload_n 0, 1) := by decide +kernel
theorem dX5_plug_1 : decode cX5_plug 1 = .ok (.getfield 22, 3) := by decide +kernel
theorem dX5_plug_4 : decode cX5_plug 4 = .ok (.aload_n 0, 1) := by decide +kernel
theorem dX5_plug_5 : decode cX5_plug 5 = .ok (.getfield 10, 3) := by decide +kernel
theorem dX5_plug_8 : decode cX5_plug 8 = .ok (.invokevirtual 41, 3) := by decide +kernel
theorem dX5_plug_11 : decode cX5_plug 11 = .ok (.aload_n 0, 1) := by decide +kernel
theorem dX5_plug_12 : decode cX5_plug 12 = .ok (.getfield 22, 3) := by decide +kernel
theorem dX5_plug_15 : decode cX5_plug 15 = .ok (.aload_n 0, 1) := by decide +kernel
theorem dX5_plug_16 : decode cX5_plug 16 = .ok (.getfield 10, 3) := by decide +kernel
theorem dX5_plug_19 : decode cX5_plug 19 = .ok (.iload_n 1, 1) := by decide +kernel
theorem dX5_plug_20 : decode cX5_plug 20 = .ok (.iload_n 2, 1) := by decide +kernel
theorem dX5_plug_21 : decode cX5_plug 21 = .ok (.iload_n 3, 1) := by decide +kernel
theorem dX5_plug_22 : decode cX5_plug 22 = .ok (.invokevirtual 56, 3) := by decide +kernel
theorem dX5_plug_25 : decode cX5_plug 25 = .ok (.invokevirtual 49, 3) := by decide +kernel
theorem dX5_plug_28 : decode cX5_plug 28 = .ok (.ireturn, 1) := by decide +kernel
theorem dX5_pull_0 : decode cX5_pull 0 = .ok (.aload_n 0, 1) := by decide +kernel
theorem dX5_pull_1 : decode cX5_pull 1 = .ok (.getfield 22, 3) := by decide +kernel
theorem dX5_pull_4 : decode cX5_pull 4 = .ok (.aload_n 0, 1) := by decide +kernel
theorem dX5_pull_5 : decode cX5_pull 5 = .ok (.getfield 10, 3) := by decide +kernel
theorem dX5_pull_8 : decode cX5_pull 8 = .ok (.invokevirtual 41, 3) := by decide +kernel
theorem dX5_pull_11 : decode cX5_pull 11 = .ok (.aload_n 0, 1) := by decide +kernel
theorem dX5_pull_12 : decode cX5_pull 12 = .ok (.getfield 22, 3) := by decide +kernel
theorem dX5_pull_15 : decode cX5_pull 15 = .ok (.aload_n 0, 1) := by decide +kernel
theorem dX5_pull_16 : decode cX5_pull 16 = .ok (.getfield 10, 3) := by decide +kernel
theorem dX5_pull_19 : decode cX5_pull 19 = .ok (.iload_n 1, 1) := by decide +kernel
theorem dX5_pull_20 : decode cX5_pull 20 = .ok (.iload_n 2, 1) := by decide +kernel
theorem dX5_pull_21 : decode cX5_pull 21 = .ok (.invokevirtual 60, 3) := by decide +kernel
theorem dX5_pull_24 : decode cX5_pull 24 = .ok (.invokevirtual 49, 3) := by decide +kernel
theorem dX5_pull_27 : decode cX5_pull 27 = .ok (.ireturn, 1) := by decide +kernel
theorem dX5_ask_0 : decode cX5_ask 0 = .ok (.aload_n 0, 1) := by decide +kernel
theorem dX5_ask_1 : decode cX5_ask 1 = .ok (.getfield 22, 3) := by decide +kernel
theorem dX5_ask_4 : decode cX5_ask 4 = .ok (.aload_n 0, 1) := by decide +kernel
theorem dX5_ask_5 : decode cX5_ask 5 = .ok (.getfield 10, 3) := by decide +kernel
theorem dX5_ask_8 : decode cX5_ask 8 = .ok (.invokevirtual 41, 3) := by decide +kernel
theorem dX5_ask_11 : decode cX5_ask 11 = .ok (.aload_n 0, 1) := by decide +kernel
theorem dX5_ask_12 : decode cX5_ask 12 = .ok (.getfield 22, 3) := by decide +kernel
theorem dX5_ask_15 : decode cX5_ask 15 = .ok (.aload_n 0, 1) := by decide +kernel
theorem dX5_ask_16 : decode cX5_ask 16 = .ok (.getfield 10, 3) := by decide +kernel
theorem dX5_ask_19 : decode cX5_ask 19 = .ok (.iload_n 1, 1) := by decide +kernel
theorem dX5_ask_20 : decode cX5_ask 20 = .ok (.invokevirtual 63, 3) := by decide +kernel
theorem dX5_ask_23 : decode cX5_ask 23 = .ok (.invokevirtual 49, 3) := by decide +kernel
theorem dX5_ask_26 : decode cX5_ask 26 = .ok (.ireturn, 1) := by decide +kernel
theorem dX5_send_0 : decode cX5_send 0 = .ok (.aload_n 0, 1) := by decide +kernel
theorem dX5_send_1 : decode cX5_send 1 = .ok (.getfield 22, 3) := by decide +kernel
theorem dX5_send_4 : decode cX5_send 4 = .ok (.aload_n 0, 1) := by decide +kernel
theorem dX5_send_5 : decode cX5_send 5 = .ok (.getfield 10, 3) := by decide +kernel
theorem dX5_send_8 : decode cX5_send 8 = .ok (.invokevirtual 41, 3) := by decide +kernel
theorem dX5_send_11 : decode cX5_send 11 = .ok (.aload_n 0, 1) := by decide +kernel
theorem dX5_send_12 : decode cX5_send 12 = .ok (.getfield 22, 3) := by decide +kernel
theorem dX5_send_15 : decode cX5_send 15 = .ok (.aload_n 0, 1) := by decide +kernel
theorem dX5_send_16 : decode cX5_send 16 = .ok (.getfield 10, 3) := by decide +kernel
theorem dX5_send_19 : decode cX5_send 19 = .ok (.iload_n 1, 1) := by decide +kernel
theorem dX5_send_20 : decode cX5_send 20 = .ok (.iload_n 2, 1) := by decide +kernel
theorem dX5_send_21 : decode cX5_send 21 = .ok (.invokevirtual 66, 3) := by decide +kernel
theorem dX5_send_24 : decode cX5_send 24 = .ok (.invokevirtual 49, 3) := by decide +kernel
theorem dX5_send_27 : decode cX5_send 27 = .ok (.ireturn, 1) := by decide +kernel
theorem dX5_pass_0 : decode cX5_pass 0 = .ok (.aload_n 0, 1) := by decide +kernel
theorem dX5_pass_1 : decode cX5_pass 1 = .ok (.getfield 22, 3) := by decide +kernel
theorem dX5_pass_4 : decode cX5_pass 4 = .ok (.aload_n 0, 1) := by decide +kernel
theorem dX5_pass_5 : decode cX5_pass 5 = .ok (.getfield 10, 3) := by decide +kernel
theorem dX5_pass_8 : decode cX5_pass 8 = .ok (.invokevirtual 41, 3) := by decide +kernel
theorem dX5_pass_11 : decode cX5_pass 11 = .ok (.aload_n 0, 1) := by decide +kernel
theorem dX5_pass_12 : decode cX5_pass 12 = .ok (.getfield 22, 3) := by decide +kernel
theorem dX5_pass_15 : decode cX5_pass 15 = .ok (.aload_n 0, 1) := by decide +kernel
theorem dX5_pass_16 : decode cX5_pass 16 = .ok (.getfield 10, 3) := by decide +kernel
theorem dX5_pass_19 : decode cX5_pass 19 = .ok (.iload_n 1, 1) := by decide +kernel
theorem dX5_pass_20 : decode cX5_pass 20 = .ok (.invokevirtual 69, 3) := by decide +kernel
theorem dX5_pass_23 : decode cX5_pass 23 = .ok (.invokevirtual 49, 3) := by decide +kernel
theorem dX5_pass_26 : decode cX5_pass 26 = .ok (.ireturn, 1) := by decide +kernel
theorem dX5_of_0 : decode cX5_of 0 = .ok (.aload_n 0, 1) := by decide +kernel
theorem dX5_of_1 : decode cX5_of 1 = .ok (.getfield 10, 3) := by decide +kernel
theorem dX5_of_4 : decode cX5_of 4 = .ok (.iload_n 1, 1) := by decide +kernel
theorem dX5_of_5 : decode cX5_of 5 = .ok (.iload_n 2, 1) := by decide +kernel
theorem dX5_of_6 : decode cX5_of 6 = .ok (.invokevirtual 72, 3) := by decide +kernel
theorem dX5_of_9 : decode cX5_of 9 = .ok (.ireturn, 1) := by decide +kernel
theorem dX5_slot_0 : decode cX5_slot 0 = .ok (.iload_n 1, 1) := by decide +kernel
theorem dX5_slot_1 : decode cX5_slot 1 = .ok (.invokestatic 75, 3) := by decide +kernel
theorem dX5_slot_4 : decode cX5_slot 4 = .ok (.ifCond .eq 14, 3) := by decide +kernel
theorem dX5_slot_7 : decode cX5_slot 7 = .ok (.aload_n 0, 1) := by decide +kernel
theorem dX5_slot_8 : decode cX5_slot 8 = .ok (.getfield 10, 3) := by decide +kernel
theorem dX5_slot_11 : decode cX5_slot 11 = .ok (.iload_n 1, 1) := by decide +kernel
theorem dX5_slot_12 : decode cX5_slot 12 = .ok (.invokevirtual 79, 3) := by decide +kernel
theorem dX5_slot_15 : decode cX5_slot 15 = .ok (.goto 4, 3) := by decide +kernel
theorem dX5_slot_18 : decode cX5_slot 18 = .ok (.iconst (-1), 1) := by decide +kernel
theorem dX5_slot_19 : decode cX5_slot 19 = .ok (.ireturn, 1) := by decide +kernel
theorem dX5_word_0 : decode cX5_word 0 = .ok (.aload_n 0, 1) := by decide +kernel
theorem dX5_word_1 : decode cX5_word 1 = .ok (.getfield 10, 3) := by decide +kernel
theorem dX5_word_4 : decode cX5_word 4 = .ok (.getfield 82, 3) := by decide +kernel
theorem dX5_word_7 : decode cX5_word 7 = .ok (.iload_n 1, 1) := by decide +kernel
theorem dX5_word_8 : decode cX5_word 8 = .ok (.iload_n 2, 1) := by decide +kernel
theorem dX5_word_9 : decode cX5_word 9 = .ok (.invokevirtual 86, 3) := by decide +kernel
theorem dX5_word_12 : decode cX5_word 12 = .ok (.ireturn, 1) := by decide +kernel
theorem dX5_waiting_0 : decode cX5_waiting 0 = .ok (.aload_n 0, 1) := by decide +kernel
theorem dX5_waiting_1 : decode cX5_waiting 1 = .ok (.getfield 10, 3) := by decide +kernel
theorem dX5_waiting_4 : decode cX5_waiting 4 = .ok (.getfield 82, 3) := by decide +kernel
theorem dX5_waiting_7 : decode cX5_waiting 7 = .ok (.iload_n 1, 1) := by decide +kernel
theorem dX5_waiting_8 : decode cX5_waiting 8 = .ok (.invokevirtual 91, 3) := by decide +kernel
theorem dX5_waiting_11 : decode cX5_waiting 11 = .ok (.istore_n 2, 1) := by decide +kernel
theorem dX5_waiting_12 : decode cX5_waiting 12 = .ok (.iload_n 2, 1) := by decide +kernel
theorem dX5_waiting_13 : decode cX5_waiting 13 = .ok (.bipush (-6), 2) := by decide +kernel
theorem dX5_waiting_15 : decode cX5_waiting 15 = .ok (.if_icmp .ne 7, 3) := by decide +kernel
theorem dX5_waiting_18 : decode cX5_waiting 18 = .ok (.iconst (-1), 1) := by decide +kernel
theorem dX5_waiting_19 : decode cX5_waiting 19 = .ok (.goto 4, 3) := by decide +kernel
theorem dX5_waiting_22 : decode cX5_waiting 22 = .ok (.iload_n 2, 1) := by decide +kernel
theorem dX5_waiting_23 : decode cX5_waiting 23 = .ok (.ireturn, 1) := by decide +kernel
theorem dX5_count_0 : decode cX5_count 0 = .ok (.iload_n 1, 1) := by decide +kernel
theorem dX5_count_1 : decode cX5_count 1 = .ok (.tableswitch 288 0 19 #[95, 103, 111, 119, 127, 138, 149, 160, 171, 187, 195, 203, 214, 222, 232, 242, 252, 262, 272, 280], 95) := by decide +kernel
theorem dX5_count_96 : decode cX5_count 96 = .ok (.aload_n 0, 1) := by decide +kernel
theorem dX5_count_97 : decode cX5_count 97 = .ok (.getfield 10, 3) := by decide +kernel
theorem dX5_count_100 : decode cX5_count 100 = .ok (.getfield 94, 3) := by decide +kernel
theorem dX5_count_103 : decode cX5_count 103 = .ok (.ireturn, 1) := by decide +kernel
theorem dX5_count_104 : decode cX5_count 104 = .ok (.aload_n 0, 1) := by decide +kernel
theorem dX5_count_105 : decode cX5_count 105 = .ok (.getfield 10, 3) := by decide +kernel
theorem dX5_count_108 : decode cX5_count 108 = .ok (.invokevirtual 98, 3) := by decide +kernel
theorem dX5_count_111 : decode cX5_count 111 = .ok (.ireturn, 1) := by decide +kernel
theorem dX5_count_112 : decode cX5_count 112 = .ok (.aload_n 0, 1) := by decide +kernel
theorem dX5_count_113 : decode cX5_count 113 = .ok (.getfield 10, 3) := by decide +kernel
theorem dX5_count_116 : decode cX5_count 116 = .ok (.invokevirtual 102, 3) := by decide +kernel
theorem dX5_count_119 : decode cX5_count 119 = .ok (.ireturn, 1) := by decide +kernel
theorem dX5_count_120 : decode cX5_count 120 = .ok (.aload_n 0, 1) := by decide +kernel
theorem dX5_count_121 : decode cX5_count 121 = .ok (.getfield 10, 3) := by decide +kernel
theorem dX5_count_124 : decode cX5_count 124 = .ok (.invokevirtual 105, 3) := by decide +kernel
theorem dX5_count_127 : decode cX5_count 127 = .ok (.ireturn, 1) := by decide +kernel
theorem dX5_count_128 : decode cX5_count 128 = .ok (.aload_n 0, 1) := by decide +kernel
theorem dX5_count_129 : decode cX5_count 129 = .ok (.getfield 10, 3) := by decide +kernel
theorem dX5_count_132 : decode cX5_count 132 = .ok (.getfield 82, 3) := by decide +kernel
theorem dX5_count_135 : decode cX5_count 135 = .ok (.getfield 108, 3) := by decide +kernel
theorem dX5_count_138 : decode cX5_count 138 = .ok (.ireturn, 1) := by decide +kernel
theorem dX5_count_139 : decode cX5_count 139 = .ok (.aload_n 0, 1) := by decide +kernel
theorem dX5_count_140 : decode cX5_count 140 = .ok (.getfield 10, 3) := by decide +kernel
theorem dX5_count_143 : decode cX5_count 143 = .ok (.getfield 82, 3) := by decide +kernel
theorem dX5_count_146 : decode cX5_count 146 = .ok (.getfield 111, 3) := by decide +kernel
theorem dX5_count_149 : decode cX5_count 149 = .ok (.ireturn, 1) := by decide +kernel
theorem dX5_count_150 : decode cX5_count 150 = .ok (.aload_n 0, 1) := by decide +kernel
theorem dX5_count_151 : decode cX5_count 151 = .ok (.getfield 10, 3) := by decide +kernel
theorem dX5_count_154 : decode cX5_count 154 = .ok (.getfield 82, 3) := by decide +kernel
theorem dX5_count_157 : decode cX5_count 157 = .ok (.getfield 114, 3) := by decide +kernel
theorem dX5_count_160 : decode cX5_count 160 = .ok (.ireturn, 1) := by decide +kernel
theorem dX5_count_161 : decode cX5_count 161 = .ok (.aload_n 0, 1) := by decide +kernel
theorem dX5_count_162 : decode cX5_count 162 = .ok (.getfield 10, 3) := by decide +kernel
theorem dX5_count_165 : decode cX5_count 165 = .ok (.getfield 82, 3) := by decide +kernel
theorem dX5_count_168 : decode cX5_count 168 = .ok (.getfield 117, 3) := by decide +kernel
theorem dX5_count_171 : decode cX5_count 171 = .ok (.ireturn, 1) := by decide +kernel
theorem dX5_count_172 : decode cX5_count 172 = .ok (.aload_n 0, 1) := by decide +kernel
theorem dX5_count_173 : decode cX5_count 173 = .ok (.getfield 10, 3) := by decide +kernel
theorem dX5_count_176 : decode cX5_count 176 = .ok (.invokevirtual 120, 3) := by decide +kernel
theorem dX5_count_179 : decode cX5_count 179 = .ok (.ifCond .eq 7, 3) := by decide +kernel
theorem dX5_count_182 : decode cX5_count 182 = .ok (.iconst 1, 1) := by decide +kernel
theorem dX5_count_183 : decode cX5_count 183 = .ok (.goto 4, 3) := by decide +kernel
theorem dX5_count_186 : decode cX5_count 186 = .ok (.iconst 0, 1) := by decide +kernel
theorem dX5_count_187 : decode cX5_count 187 = .ok (.ireturn, 1) := by decide +kernel
theorem dX5_count_188 : decode cX5_count 188 = .ok (.aload_n 0, 1) := by decide +kernel
theorem dX5_count_189 : decode cX5_count 189 = .ok (.getfield 10, 3) := by decide +kernel
theorem dX5_count_192 : decode cX5_count 192 = .ok (.invokevirtual 124, 3) := by decide +kernel
theorem dX5_count_195 : decode cX5_count 195 = .ok (.ireturn, 1) := by decide +kernel
theorem dX5_count_196 : decode cX5_count 196 = .ok (.aload_n 0, 1) := by decide +kernel
theorem dX5_count_197 : decode cX5_count 197 = .ok (.getfield 10, 3) := by decide +kernel
theorem dX5_count_200 : decode cX5_count 200 = .ok (.getfield 127, 3) := by decide +kernel
theorem dX5_count_203 : decode cX5_count 203 = .ok (.ireturn, 1) := by decide +kernel
theorem dX5_count_204 : decode cX5_count 204 = .ok (.aload_n 0, 1) := by decide +kernel
theorem dX5_count_205 : decode cX5_count 205 = .ok (.getfield 10, 3) := by decide +kernel
theorem dX5_count_208 : decode cX5_count 208 = .ok (.getfield 82, 3) := by decide +kernel
theorem dX5_count_211 : decode cX5_count 211 = .ok (.getfield 130, 3) := by decide +kernel
theorem dX5_count_214 : decode cX5_count 214 = .ok (.ireturn, 1) := by decide +kernel
theorem dX5_count_215 : decode cX5_count 215 = .ok (.aload_n 0, 1) := by decide +kernel
theorem dX5_count_216 : decode cX5_count 216 = .ok (.getfield 10, 3) := by decide +kernel
theorem dX5_count_219 : decode cX5_count 219 = .ok (.invokevirtual 133, 3) := by decide +kernel
theorem dX5_count_222 : decode cX5_count 222 = .ok (.ireturn, 1) := by decide +kernel
theorem dX5_count_223 : decode cX5_count 223 = .ok (.aload_n 0, 1) := by decide +kernel
theorem dX5_count_224 : decode cX5_count 224 = .ok (.getfield 10, 3) := by decide +kernel
theorem dX5_count_227 : decode cX5_count 227 = .ok (.getfield 136, 3) := by decide +kernel
theorem dX5_count_230 : decode cX5_count 230 = .ok (.iconst 0, 1) := by decide +kernel
theorem dX5_count_231 : decode cX5_count 231 = .ok (.iaload, 1) := by decide +kernel
theorem dX5_count_232 : decode cX5_count 232 = .ok (.ireturn, 1) := by decide +kernel
theorem dX5_count_233 : decode cX5_count 233 = .ok (.aload_n 0, 1) := by decide +kernel
theorem dX5_count_234 : decode cX5_count 234 = .ok (.getfield 10, 3) := by decide +kernel
theorem dX5_count_237 : decode cX5_count 237 = .ok (.getfield 136, 3) := by decide +kernel
theorem dX5_count_240 : decode cX5_count 240 = .ok (.iconst 1, 1) := by decide +kernel
theorem dX5_count_241 : decode cX5_count 241 = .ok (.iaload, 1) := by decide +kernel
theorem dX5_count_242 : decode cX5_count 242 = .ok (.ireturn, 1) := by decide +kernel
theorem dX5_count_243 : decode cX5_count 243 = .ok (.aload_n 0, 1) := by decide +kernel
theorem dX5_count_244 : decode cX5_count 244 = .ok (.getfield 10, 3) := by decide +kernel
theorem dX5_count_247 : decode cX5_count 247 = .ok (.getfield 136, 3) := by decide +kernel
theorem dX5_count_250 : decode cX5_count 250 = .ok (.iconst 2, 1) := by decide +kernel
theorem dX5_count_251 : decode cX5_count 251 = .ok (.iaload, 1) := by decide +kernel
theorem dX5_count_252 : decode cX5_count 252 = .ok (.ireturn, 1) := by decide +kernel
theorem dX5_count_253 : decode cX5_count 253 = .ok (.aload_n 0, 1) := by decide +kernel
theorem dX5_count_254 : decode cX5_count 254 = .ok (.getfield 10, 3) := by decide +kernel
theorem dX5_count_257 : decode cX5_count 257 = .ok (.getfield 136, 3) := by decide +kernel
theorem dX5_count_260 : decode cX5_count 260 = .ok (.iconst 3, 1) := by decide +kernel
theorem dX5_count_261 : decode cX5_count 261 = .ok (.iaload, 1) := by decide +kernel
theorem dX5_count_262 : decode cX5_count 262 = .ok (.ireturn, 1) := by decide +kernel
theorem dX5_count_263 : decode cX5_count 263 = .ok (.aload_n 0, 1) := by decide +kernel
theorem dX5_count_264 : decode cX5_count 264 = .ok (.getfield 10, 3) := by decide +kernel
theorem dX5_count_267 : decode cX5_count 267 = .ok (.getfield 136, 3) := by decide +kernel
theorem dX5_count_270 : decode cX5_count 270 = .ok (.iconst 4, 1) := by decide +kernel
theorem dX5_count_271 : decode cX5_count 271 = .ok (.iaload, 1) := by decide +kernel
theorem dX5_count_272 : decode cX5_count 272 = .ok (.ireturn, 1) := by decide +kernel
theorem dX5_count_273 : decode cX5_count 273 = .ok (.aload_n 0, 1) := by decide +kernel
theorem dX5_count_274 : decode cX5_count 274 = .ok (.getfield 29, 3) := by decide +kernel
theorem dX5_count_277 : decode cX5_count 277 = .ok (.getfield 140, 3) := by decide +kernel
theorem dX5_count_280 : decode cX5_count 280 = .ok (.ireturn, 1) := by decide +kernel
theorem dX5_count_281 : decode cX5_count 281 = .ok (.aload_n 0, 1) := by decide +kernel
theorem dX5_count_282 : decode cX5_count 282 = .ok (.getfield 22, 3) := by decide +kernel
theorem dX5_count_285 : decode cX5_count 285 = .ok (.getfield 143, 3) := by decide +kernel
theorem dX5_count_288 : decode cX5_count 288 = .ok (.ireturn, 1) := by decide +kernel
theorem dX5_count_289 : decode cX5_count 289 = .ok (.bipush (-2), 2) := by decide +kernel
theorem dX5_count_291 : decode cX5_count 291 = .ok (.ireturn, 1) := by decide +kernel
theorem dX5_known_0 : decode cX5_known 0 = .ok (.iload_n 1, 1) := by decide +kernel
theorem dX5_known_1 : decode cX5_known 1 = .ok (.iconst 0, 1) := by decide +kernel
theorem dX5_known_2 : decode cX5_known 2 = .ok (.bipush 99, 2) := by decide +kernel
theorem dX5_known_4 : decode cX5_known 4 = .ok (.invokestatic 146, 3) := by decide +kernel
theorem dX5_known_7 : decode cX5_known 7 = .ok (.ifCond .eq 14, 3) := by decide +kernel
theorem dX5_known_10 : decode cX5_known 10 = .ok (.aload_n 0, 1) := by decide +kernel
theorem dX5_known_11 : decode cX5_known 11 = .ok (.getfield 10, 3) := by decide +kernel
theorem dX5_known_14 : decode cX5_known 14 = .ok (.iload_n 1, 1) := by decide +kernel
theorem dX5_known_15 : decode cX5_known 15 = .ok (.invokevirtual 150, 3) := by decide +kernel
theorem dX5_known_18 : decode cX5_known 18 = .ok (.goto 5, 3) := by decide +kernel
theorem dX5_known_21 : decode cX5_known 21 = .ok (.bipush (-2), 2) := by decide +kernel
theorem dX5_known_23 : decode cX5_known 23 = .ok (.ireturn, 1) := by decide +kernel
theorem dX5_why_0 : decode cX5_why 0 = .ok (.aload_n 0, 1) := by decide +kernel
theorem dX5_why_1 : decode cX5_why 1 = .ok (.getfield 10, 3) := by decide +kernel
theorem dX5_why_4 : decode cX5_why 4 = .ok (.iload_n 1, 1) := by decide +kernel
theorem dX5_why_5 : decode cX5_why 5 = .ok (.iload_n 2, 1) := by decide +kernel
theorem dX5_why_6 : decode cX5_why 6 = .ok (.invokevirtual 153, 3) := by decide +kernel
theorem dX5_why_9 : decode cX5_why 9 = .ok (.ireturn, 1) := by decide +kernel
theorem dX5_knownIn_0 : decode cX5_knownIn 0 = .ok (.aload_n 0, 1) := by decide +kernel
theorem dX5_knownIn_1 : decode cX5_knownIn 1 = .ok (.getfield 10, 3) := by decide +kernel
theorem dX5_knownIn_4 : decode cX5_knownIn 4 = .ok (.iload_n 1, 1) := by decide +kernel
theorem dX5_knownIn_5 : decode cX5_knownIn 5 = .ok (.invokevirtual 156, 3) := by decide +kernel
theorem dX5_knownIn_8 : decode cX5_knownIn 8 = .ok (.astore_n 2, 1) := by decide +kernel
theorem dX5_knownIn_9 : decode cX5_knownIn 9 = .ok (.aload_n 2, 1) := by decide +kernel
theorem dX5_knownIn_10 : decode cX5_knownIn 10 = .ok (.ifnonnull 5, 3) := by decide +kernel
theorem dX5_knownIn_13 : decode cX5_knownIn 13 = .ok (.iconst (-1), 1) := by decide +kernel
theorem dX5_knownIn_14 : decode cX5_knownIn 14 = .ok (.ireturn, 1) := by decide +kernel
theorem dX5_knownIn_15 : decode cX5_knownIn 15 = .ok (.aload_n 2, 1) := by decide +kernel
theorem dX5_knownIn_16 : decode cX5_knownIn 16 = .ok (.getfield 160, 3) := by decide +kernel
theorem dX5_knownIn_19 : decode cX5_knownIn 19 = .ok (.bipush (-6), 2) := by decide +kernel
theorem dX5_knownIn_21 : decode cX5_knownIn 21 = .ok (.if_icmp .ne 6, 3) := by decide +kernel
theorem dX5_knownIn_24 : decode cX5_knownIn 24 = .ok (.bipush (-5), 2) := by decide +kernel
theorem dX5_knownIn_26 : decode cX5_knownIn 26 = .ok (.ireturn, 1) := by decide +kernel
theorem dX5_knownIn_27 : decode cX5_knownIn 27 = .ok (.aload_n 0, 1) := by decide +kernel
theorem dX5_knownIn_28 : decode cX5_knownIn 28 = .ok (.getfield 16, 3) := by decide +kernel
theorem dX5_knownIn_31 : decode cX5_knownIn 31 = .ok (.aload_n 0, 1) := by decide +kernel
theorem dX5_knownIn_32 : decode cX5_knownIn 32 = .ok (.getfield 10, 3) := by decide +kernel
theorem dX5_knownIn_35 : decode cX5_knownIn 35 = .ok (.invokevirtual 165, 3) := by decide +kernel
theorem dX5_knownIn_38 : decode cX5_knownIn 38 = .ok (.aload_n 0, 1) := by decide +kernel
theorem dX5_knownIn_39 : decode cX5_knownIn 39 = .ok (.getfield 16, 3) := by decide +kernel
theorem dX5_knownIn_42 : decode cX5_knownIn 42 = .ok (.iload_n 1, 1) := by decide +kernel
theorem dX5_knownIn_43 : decode cX5_knownIn 43 = .ok (.invokevirtual 168, 3) := by decide +kernel
theorem dX5_knownIn_46 : decode cX5_knownIn 46 = .ok (.ireturn, 1) := by decide +kernel
theorem dX5_wouldHurt_0 : decode cX5_wouldHurt 0 = .ok (.aload_n 0, 1) := by decide +kernel
theorem dX5_wouldHurt_1 : decode cX5_wouldHurt 1 = .ok (.getfield 10, 3) := by decide +kernel
theorem dX5_wouldHurt_4 : decode cX5_wouldHurt 4 = .ok (.iload_n 1, 1) := by decide +kernel
theorem dX5_wouldHurt_5 : decode cX5_wouldHurt 5 = .ok (.iload_n 2, 1) := by decide +kernel
theorem dX5_wouldHurt_6 : decode cX5_wouldHurt 6 = .ok (.iload_n 3, 1) := by decide +kernel
theorem dX5_wouldHurt_7 : decode cX5_wouldHurt 7 = .ok (.invokevirtual 171, 3) := by decide +kernel
theorem dX5_wouldHurt_10 : decode cX5_wouldHurt 10 = .ok (.istore 4, 2) := by decide +kernel
theorem dX5_wouldHurt_12 : decode cX5_wouldHurt 12 = .ok (.iload 4, 2) := by decide +kernel
theorem dX5_wouldHurt_14 : decode cX5_wouldHurt 14 = .ok (.ifCond .ge 8, 3) := by decide +kernel
theorem dX5_wouldHurt_17 : decode cX5_wouldHurt 17 = .ok (.iload 4, 2) := by decide +kernel
theorem dX5_wouldHurt_19 : decode cX5_wouldHurt 19 = .ok (.goto 10, 3) := by decide +kernel
theorem dX5_wouldHurt_22 : decode cX5_wouldHurt 22 = .ok (.aload_n 0, 1) := by decide +kernel
theorem dX5_wouldHurt_23 : decode cX5_wouldHurt 23 = .ok (.iload_n 1, 1) := by decide +kernel
theorem dX5_wouldHurt_24 : decode cX5_wouldHurt 24 = .ok (.iload_n 2, 1) := by decide +kernel
theorem dX5_wouldHurt_25 : decode cX5_wouldHurt 25 = .ok (.iload_n 3, 1) := by decide +kernel
theorem dX5_wouldHurt_26 : decode cX5_wouldHurt 26 = .ok (.invokevirtual 174, 3) := by decide +kernel
theorem dX5_wouldHurt_29 : decode cX5_wouldHurt 29 = .ok (.ireturn, 1) := by decide +kernel
theorem dX5_safeSpeed_0 : decode cX5_safeSpeed 0 = .ok (.aload_n 0, 1) := by decide +kernel
theorem dX5_safeSpeed_1 : decode cX5_safeSpeed 1 = .ok (.getfield 10, 3) := by decide +kernel
theorem dX5_safeSpeed_4 : decode cX5_safeSpeed 4 = .ok (.iload_n 1, 1) := by decide +kernel
theorem dX5_safeSpeed_5 : decode cX5_safeSpeed 5 = .ok (.iload_n 2, 1) := by decide +kernel
theorem dX5_safeSpeed_6 : decode cX5_safeSpeed 6 = .ok (.bipush 24, 2) := by decide +kernel
theorem dX5_safeSpeed_8 : decode cX5_safeSpeed 8 = .ok (.invokevirtual 171, 3) := by decide +kernel
theorem dX5_safeSpeed_11 : decode cX5_safeSpeed 11 = .ok (.istore_n 3, 1) := by decide +kernel
theorem dX5_safeSpeed_12 : decode cX5_safeSpeed 12 = .ok (.iload_n 3, 1) := by decide +kernel
theorem dX5_safeSpeed_13 : decode cX5_safeSpeed 13 = .ok (.ifCond .ge 5, 3) := by decide +kernel
theorem dX5_safeSpeed_16 : decode cX5_safeSpeed 16 = .ok (.iload_n 3, 1) := by decide +kernel
theorem dX5_safeSpeed_17 : decode cX5_safeSpeed 17 = .ok (.ireturn, 1) := by decide +kernel
theorem dX5_safeSpeed_18 : decode cX5_safeSpeed 18 = .ok (.bipush 24, 2) := by decide +kernel
theorem dX5_safeSpeed_20 : decode cX5_safeSpeed 20 = .ok (.istore 4, 2) := by decide +kernel
theorem dX5_safeSpeed_22 : decode cX5_safeSpeed 22 = .ok (.iload 4, 2) := by decide +kernel
theorem dX5_safeSpeed_24 : decode cX5_safeSpeed 24 = .ok (.iconst 1, 1) := by decide +kernel
theorem dX5_safeSpeed_25 : decode cX5_safeSpeed 25 = .ok (.if_icmp .lt 23, 3) := by decide +kernel
theorem dX5_safeSpeed_28 : decode cX5_safeSpeed 28 = .ok (.aload_n 0, 1) := by decide +kernel
theorem dX5_safeSpeed_29 : decode cX5_safeSpeed 29 = .ok (.iload_n 1, 1) := by decide +kernel
theorem dX5_safeSpeed_30 : decode cX5_safeSpeed 30 = .ok (.iload_n 2, 1) := by decide +kernel
theorem dX5_safeSpeed_31 : decode cX5_safeSpeed 31 = .ok (.iload 4, 2) := by decide +kernel
theorem dX5_safeSpeed_33 : decode cX5_safeSpeed 33 = .ok (.invokevirtual 174, 3) := by decide +kernel
theorem dX5_safeSpeed_36 : decode cX5_safeSpeed 36 = .ok (.ifCond .ne 6, 3) := by decide +kernel
theorem dX5_safeSpeed_39 : decode cX5_safeSpeed 39 = .ok (.iload 4, 2) := by decide +kernel
theorem dX5_safeSpeed_41 : decode cX5_safeSpeed 41 = .ok (.ireturn, 1) := by decide +kernel
theorem dX5_safeSpeed_42 : decode cX5_safeSpeed 42 = .ok (.iinc 4 (-1), 3) := by decide +kernel
theorem dX5_safeSpeed_45 : decode cX5_safeSpeed 45 = .ok (.goto (-23), 3) := by decide +kernel
theorem dX5_safeSpeed_48 : decode cX5_safeSpeed 48 = .ok (.bipush (-6), 2) := by decide +kernel
theorem dX5_safeSpeed_50 : decode cX5_safeSpeed 50 = .ok (.ireturn, 1) := by decide +kernel
theorem dX5_quietIn_0 : decode cX5_quietIn 0 = .ok (.aload_n 0, 1) := by decide +kernel
theorem dX5_quietIn_1 : decode cX5_quietIn 1 = .ok (.getfield 16, 3) := by decide +kernel
theorem dX5_quietIn_4 : decode cX5_quietIn 4 = .ok (.aload_n 0, 1) := by decide +kernel
theorem dX5_quietIn_5 : decode cX5_quietIn 5 = .ok (.getfield 10, 3) := by decide +kernel
theorem dX5_quietIn_8 : decode cX5_quietIn 8 = .ok (.invokevirtual 165, 3) := by decide +kernel
theorem dX5_quietIn_11 : decode cX5_quietIn 11 = .ok (.aload_n 0, 1) := by decide +kernel
theorem dX5_quietIn_12 : decode cX5_quietIn 12 = .ok (.getfield 16, 3) := by decide +kernel
theorem dX5_quietIn_15 : decode cX5_quietIn 15 = .ok (.invokevirtual 177, 3) := by decide +kernel
theorem dX5_quietIn_18 : decode cX5_quietIn 18 = .ok (.ireturn, 1) := by decide +kernel
theorem dX5_put_0 : decode cX5_put 0 = .ok (.aload_n 0, 1) := by decide +kernel
theorem dX5_put_1 : decode cX5_put 1 = .ok (.getfield 29, 3) := by decide +kernel
theorem dX5_put_4 : decode cX5_put 4 = .ok (.lload_n 1, 1) := by decide +kernel
theorem dX5_put_5 : decode cX5_put 5 = .ok (.invokevirtual 180, 3) := by decide +kernel
theorem dX5_put_8 : decode cX5_put 8 = .ok (.ireturn, 1) := by decide +kernel
theorem dX5_wipe_0 : decode cX5_wipe 0 = .ok (.aload_n 0, 1) := by decide +kernel
theorem dX5_wipe_1 : decode cX5_wipe 1 = .ok (.getfield 29, 3) := by decide +kernel
theorem dX5_wipe_4 : decode cX5_wipe 4 = .ok (.invokevirtual 184, 3) := by decide +kernel
theorem dX5_wipe_7 : decode cX5_wipe 7 = .ok (.ireturn, 1) := by decide +kernel
theorem dX5_fault_0 : decode cX5_fault 0 = .ok (.aload_n 0, 1) := by decide +kernel
theorem dX5_fault_1 : decode cX5_fault 1 = .ok (.getfield 29, 3) := by decide +kernel
theorem dX5_fault_4 : decode cX5_fault 4 = .ok (.invokevirtual 187, 3) := by decide +kernel
theorem dX5_fault_7 : decode cX5_fault 7 = .ok (.ireturn, 1) := by decide +kernel
theorem dX5_carryOut_0 : decode cX5_carryOut 0 = .ok (.aload_n 0, 1) := by decide +kernel
theorem dX5_carryOut_1 : decode cX5_carryOut 1 = .ok (.getfield 29, 3) := by decide +kernel
theorem dX5_carryOut_4 : decode cX5_carryOut 4 = .ok (.invokevirtual 187, 3) := by decide +kernel
theorem dX5_carryOut_7 : decode cX5_carryOut 7 = .ok (.bipush (-6), 2) := by decide +kernel
theorem dX5_carryOut_9 : decode cX5_carryOut 9 = .ok (.if_icmp .eq 6, 3) := by decide +kernel
theorem dX5_carryOut_12 : decode cX5_carryOut 12 = .ok (.bipush (-3), 2) := by decide +kernel
theorem dX5_carryOut_14 : decode cX5_carryOut 14 = .ok (.ireturn, 1) := by decide +kernel
theorem dX5_carryOut_15 : decode cX5_carryOut 15 = .ok (.aload_n 0, 1) := by decide +kernel
theorem dX5_carryOut_16 : decode cX5_carryOut 16 = .ok (.getfield 22, 3) := by decide +kernel
theorem dX5_carryOut_19 : decode cX5_carryOut 19 = .ok (.aload_n 0, 1) := by decide +kernel
theorem dX5_carryOut_20 : decode cX5_carryOut 20 = .ok (.getfield 10, 3) := by decide +kernel
theorem dX5_carryOut_23 : decode cX5_carryOut 23 = .ok (.invokevirtual 41, 3) := by decide +kernel
theorem dX5_carryOut_26 : decode cX5_carryOut 26 = .ok (.aload_n 0, 1) := by decide +kernel
theorem dX5_carryOut_27 : decode cX5_carryOut 27 = .ok (.getfield 29, 3) := by decide +kernel
theorem dX5_carryOut_30 : decode cX5_carryOut 30 = .ok (.invokevirtual 190, 3) := by decide +kernel
theorem dX5_carryOut_33 : decode cX5_carryOut 33 = .ok (.iconst 0, 1) := by decide +kernel
theorem dX5_carryOut_34 : decode cX5_carryOut 34 = .ok (.istore_n 1, 1) := by decide +kernel
theorem dX5_carryOut_35 : decode cX5_carryOut 35 = .ok (.iload_n 1, 1) := by decide +kernel
theorem dX5_carryOut_36 : decode cX5_carryOut 36 = .ok (.bipush 80, 2) := by decide +kernel
theorem dX5_carryOut_38 : decode cX5_carryOut 38 = .ok (.if_icmp .ge 34, 3) := by decide +kernel
theorem dX5_carryOut_41 : decode cX5_carryOut 41 = .ok (.aload_n 0, 1) := by decide +kernel
theorem dX5_carryOut_42 : decode cX5_carryOut 42 = .ok (.getfield 29, 3) := by decide +kernel
theorem dX5_carryOut_45 : decode cX5_carryOut 45 = .ok (.invokevirtual 193, 3) := by decide +kernel
theorem dX5_carryOut_48 : decode cX5_carryOut 48 = .ok (.ifCond .eq 24, 3) := by decide +kernel
theorem dX5_carryOut_51 : decode cX5_carryOut 51 = .ok (.aload_n 0, 1) := by decide +kernel
theorem dX5_carryOut_52 : decode cX5_carryOut 52 = .ok (.invokevirtual 196, 3) := by decide +kernel
theorem dX5_carryOut_55 : decode cX5_carryOut 55 = .ok (.ifCond .lt 17, 3) := by decide +kernel
theorem dX5_carryOut_58 : decode cX5_carryOut 58 = .ok (.iinc 1 1, 3) := by decide +kernel
theorem dX5_carryOut_61 : decode cX5_carryOut 61 = .ok (.aload_n 0, 1) := by decide +kernel
theorem dX5_carryOut_62 : decode cX5_carryOut 62 = .ok (.getfield 29, 3) := by decide +kernel
theorem dX5_carryOut_65 : decode cX5_carryOut 65 = .ok (.invokevirtual 199, 3) := by decide +kernel
theorem dX5_carryOut_68 : decode cX5_carryOut 68 = .ok (.pop, 1) := by decide +kernel
theorem dX5_carryOut_69 : decode cX5_carryOut 69 = .ok (.goto (-34), 3) := by decide +kernel
theorem dX5_carryOut_72 : decode cX5_carryOut 72 = .ok (.aload_n 0, 1) := by decide +kernel
theorem dX5_carryOut_73 : decode cX5_carryOut 73 = .ok (.getfield 29, 3) := by decide +kernel
theorem dX5_carryOut_76 : decode cX5_carryOut 76 = .ok (.invokevirtual 184, 3) := by decide +kernel
theorem dX5_carryOut_79 : decode cX5_carryOut 79 = .ok (.pop, 1) := by decide +kernel
theorem dX5_carryOut_80 : decode cX5_carryOut 80 = .ok (.aload_n 0, 1) := by decide +kernel
theorem dX5_carryOut_81 : decode cX5_carryOut 81 = .ok (.getfield 22, 3) := by decide +kernel
theorem dX5_carryOut_84 : decode cX5_carryOut 84 = .ok (.iload_n 1, 1) := by decide +kernel
theorem dX5_carryOut_85 : decode cX5_carryOut 85 = .ok (.invokevirtual 49, 3) := by decide +kernel
theorem dX5_carryOut_88 : decode cX5_carryOut 88 = .ok (.ireturn, 1) := by decide +kernel
theorem dX5_undo_0 : decode cX5_undo 0 = .ok (.aload_n 0, 1) := by decide +kernel
theorem dX5_undo_1 : decode cX5_undo 1 = .ok (.getfield 22, 3) := by decide +kernel
theorem dX5_undo_4 : decode cX5_undo 4 = .ok (.aload_n 0, 1) := by decide +kernel
theorem dX5_undo_5 : decode cX5_undo 5 = .ok (.getfield 10, 3) := by decide +kernel
theorem dX5_undo_8 : decode cX5_undo 8 = .ok (.invokevirtual 202, 3) := by decide +kernel
theorem dX5_undo_11 : decode cX5_undo 11 = .ok (.ireturn, 1) := by decide +kernel
theorem dX5_save_0 : decode cX5_save 0 = .ok (.iload_n 1, 1) := by decide +kernel
theorem dX5_save_1 : decode cX5_save 1 = .ok (.iconst 0, 1) := by decide +kernel
theorem dX5_save_2 : decode cX5_save 2 = .ok (.iconst 1, 1) := by decide +kernel
theorem dX5_save_3 : decode cX5_save 3 = .ok (.invokestatic 146, 3) := by decide +kernel
theorem dX5_save_6 : decode cX5_save 6 = .ok (.ifCond .ne 6, 3) := by decide +kernel
theorem dX5_save_9 : decode cX5_save 9 = .ok (.bipush (-2), 2) := by decide +kernel
theorem dX5_save_11 : decode cX5_save 11 = .ok (.ireturn, 1) := by decide +kernel
theorem dX5_save_12 : decode cX5_save 12 = .ok (.aload_n 0, 1) := by decide +kernel
theorem dX5_save_13 : decode cX5_save 13 = .ok (.getfield 33, 3) := by decide +kernel
theorem dX5_save_16 : decode cX5_save 16 = .ok (.iload_n 1, 1) := by decide +kernel
theorem dX5_save_17 : decode cX5_save 17 = .ok (.aaload, 1) := by decide +kernel
theorem dX5_save_18 : decode cX5_save 18 = .ok (.aload_n 0, 1) := by decide +kernel
theorem dX5_save_19 : decode cX5_save 19 = .ok (.getfield 10, 3) := by decide +kernel
theorem dX5_save_22 : decode cX5_save 22 = .ok (.invokevirtual 165, 3) := by decide +kernel
theorem dX5_save_25 : decode cX5_save 25 = .ok (.aload_n 0, 1) := by decide +kernel
theorem dX5_save_26 : decode cX5_save 26 = .ok (.getfield 37, 3) := by decide +kernel
theorem dX5_save_29 : decode cX5_save 29 = .ok (.iload_n 1, 1) := by decide +kernel
theorem dX5_save_30 : decode cX5_save 30 = .ok (.iconst 1, 1) := by decide +kernel
theorem dX5_save_31 : decode cX5_save 31 = .ok (.bastore, 1) := by decide +kernel
theorem dX5_save_32 : decode cX5_save 32 = .ok (.aload_n 0, 1) := by decide +kernel
theorem dX5_save_33 : decode cX5_save 33 = .ok (.getfield 10, 3) := by decide +kernel
theorem dX5_save_36 : decode cX5_save 36 = .ok (.getfield 206, 3) := by decide +kernel
theorem dX5_save_39 : decode cX5_save 39 = .ok (.ireturn, 1) := by decide +kernel
theorem dX5_restore_0 : decode cX5_restore 0 = .ok (.iload_n 1, 1) := by decide +kernel
theorem dX5_restore_1 : decode cX5_restore 1 = .ok (.iconst 0, 1) := by decide +kernel
theorem dX5_restore_2 : decode cX5_restore 2 = .ok (.iconst 1, 1) := by decide +kernel
theorem dX5_restore_3 : decode cX5_restore 3 = .ok (.invokestatic 146, 3) := by decide +kernel
theorem dX5_restore_6 : decode cX5_restore 6 = .ok (.ifCond .ne 6, 3) := by decide +kernel
theorem dX5_restore_9 : decode cX5_restore 9 = .ok (.bipush (-2), 2) := by decide +kernel
theorem dX5_restore_11 : decode cX5_restore 11 = .ok (.ireturn, 1) := by decide +kernel
theorem dX5_restore_12 : decode cX5_restore 12 = .ok (.aload_n 0, 1) := by decide +kernel
theorem dX5_restore_13 : decode cX5_restore 13 = .ok (.getfield 37, 3) := by decide +kernel
theorem dX5_restore_16 : decode cX5_restore 16 = .ok (.iload_n 1, 1) := by decide +kernel
theorem dX5_restore_17 : decode cX5_restore 17 = .ok (.baload, 1) := by decide +kernel
theorem dX5_restore_18 : decode cX5_restore 18 = .ok (.ifCond .ne 6, 3) := by decide +kernel
theorem dX5_restore_21 : decode cX5_restore 21 = .ok (.bipush (-5), 2) := by decide +kernel
theorem dX5_restore_23 : decode cX5_restore 23 = .ok (.ireturn, 1) := by decide +kernel
theorem dX5_restore_24 : decode cX5_restore 24 = .ok (.aload_n 0, 1) := by decide +kernel
theorem dX5_restore_25 : decode cX5_restore 25 = .ok (.getfield 22, 3) := by decide +kernel
theorem dX5_restore_28 : decode cX5_restore 28 = .ok (.aload_n 0, 1) := by decide +kernel
theorem dX5_restore_29 : decode cX5_restore 29 = .ok (.getfield 10, 3) := by decide +kernel
theorem dX5_restore_32 : decode cX5_restore 32 = .ok (.invokevirtual 41, 3) := by decide +kernel
theorem dX5_restore_35 : decode cX5_restore 35 = .ok (.aload_n 0, 1) := by decide +kernel
theorem dX5_restore_36 : decode cX5_restore 36 = .ok (.getfield 10, 3) := by decide +kernel
theorem dX5_restore_39 : decode cX5_restore 39 = .ok (.aload_n 0, 1) := by decide +kernel
theorem dX5_restore_40 : decode cX5_restore 40 = .ok (.getfield 33, 3) := by decide +kernel
theorem dX5_restore_43 : decode cX5_restore 43 = .ok (.iload_n 1, 1) := by decide +kernel
theorem dX5_restore_44 : decode cX5_restore 44 = .ok (.aaload, 1) := by decide +kernel
theorem dX5_restore_45 : decode cX5_restore 45 = .ok (.invokevirtual 165, 3) := by decide +kernel
theorem dX5_restore_48 : decode cX5_restore 48 = .ok (.aload_n 0, 1) := by decide +kernel
theorem dX5_restore_49 : decode cX5_restore 49 = .ok (.getfield 22, 3) := by decide +kernel
theorem dX5_restore_52 : decode cX5_restore 52 = .ok (.aload_n 0, 1) := by decide +kernel
theorem dX5_restore_53 : decode cX5_restore 53 = .ok (.getfield 10, 3) := by decide +kernel
theorem dX5_restore_56 : decode cX5_restore 56 = .ok (.getfield 206, 3) := by decide +kernel
theorem dX5_restore_59 : decode cX5_restore 59 = .ok (.invokevirtual 49, 3) := by decide +kernel
theorem dX5_restore_62 : decode cX5_restore 62 = .ok (.ireturn, 1) := by decide +kernel
theorem dX5_isIn_0 : decode cX5_isIn 0 = .ok (.iload_n 0, 1) := by decide +kernel
theorem dX5_isIn_1 : decode cX5_isIn 1 = .ok (.iload_n 1, 1) := by decide +kernel
theorem dX5_isIn_2 : decode cX5_isIn 2 = .ok (.if_icmp .lt 12, 3) := by decide +kernel
theorem dX5_isIn_5 : decode cX5_isIn 5 = .ok (.iload_n 0, 1) := by decide +kernel
theorem dX5_isIn_6 : decode cX5_isIn 6 = .ok (.iload_n 2, 1) := by decide +kernel
theorem dX5_isIn_7 : decode cX5_isIn 7 = .ok (.if_icmp .gt 7, 3) := by decide +kernel
theorem dX5_isIn_10 : decode cX5_isIn 10 = .ok (.iconst 1, 1) := by decide +kernel
theorem dX5_isIn_11 : decode cX5_isIn 11 = .ok (.goto 4, 3) := by decide +kernel
theorem dX5_isIn_14 : decode cX5_isIn 14 = .ok (.iconst 0, 1) := by decide +kernel
theorem dX5_isIn_15 : decode cX5_isIn 15 = .ok (.ireturn, 1) := by decide +kernel
theorem dX5_isSlot_0 : decode cX5_isSlot 0 = .ok (.iload_n 0, 1) := by decide +kernel
theorem dX5_isSlot_1 : decode cX5_isSlot 1 = .ok (.iconst 0, 1) := by decide +kernel
theorem dX5_isSlot_2 : decode cX5_isSlot 2 = .ok (.iconst 4, 1) := by decide +kernel
theorem dX5_isSlot_3 : decode cX5_isSlot 3 = .ok (.invokestatic 146, 3) := by decide +kernel
theorem dX5_isSlot_6 : decode cX5_isSlot 6 = .ok (.ireturn, 1) := by decide +kernel
theorem dX5_hurtsByPlug_0 : decode cX5_hurtsByPlug 0 = .ok (.aload_n 0, 1) := by decide +kernel
theorem dX5_hurtsByPlug_1 : decode cX5_hurtsByPlug 1 = .ok (.getfield 16, 3) := by decide +kernel
theorem dX5_hurtsByPlug_4 : decode cX5_hurtsByPlug 4 = .ok (.aload_n 0, 1) := by decide +kernel
theorem dX5_hurtsByPlug_5 : decode cX5_hurtsByPlug 5 = .ok (.getfield 10, 3) := by decide +kernel
theorem dX5_hurtsByPlug_8 : decode cX5_hurtsByPlug 8 = .ok (.invokevirtual 165, 3) := by decide +kernel
theorem dX5_hurtsByPlug_11 : decode cX5_hurtsByPlug 11 = .ok (.aload_n 0, 1) := by decide +kernel
theorem dX5_hurtsByPlug_12 : decode cX5_hurtsByPlug 12 = .ok (.getfield 16, 3) := by decide +kernel
theorem dX5_hurtsByPlug_15 : decode cX5_hurtsByPlug 15 = .ok (.iload_n 1, 1) := by decide +kernel
theorem dX5_hurtsByPlug_16 : decode cX5_hurtsByPlug 16 = .ok (.iload_n 2, 1) := by decide +kernel
theorem dX5_hurtsByPlug_17 : decode cX5_hurtsByPlug 17 = .ok (.iload_n 3, 1) := by decide +kernel
theorem dX5_hurtsByPlug_18 : decode cX5_hurtsByPlug 18 = .ok (.invokevirtual 56, 3) := by decide +kernel
theorem dX5_hurtsByPlug_21 : decode cX5_hurtsByPlug 21 = .ok (.pop, 1) := by decide +kernel
theorem dX5_hurtsByPlug_22 : decode cX5_hurtsByPlug 22 = .ok (.aload_n 0, 1) := by decide +kernel
theorem dX5_hurtsByPlug_23 : decode cX5_hurtsByPlug 23 = .ok (.getfield 16, 3) := by decide +kernel
theorem dX5_hurtsByPlug_26 : decode cX5_hurtsByPlug 26 = .ok (.iload_n 1, 1) := by decide +kernel
theorem dX5_hurtsByPlug_27 : decode cX5_hurtsByPlug 27 = .ok (.invokevirtual 209, 3) := by decide +kernel
theorem dX5_hurtsByPlug_30 : decode cX5_hurtsByPlug 30 = .ok (.ireturn, 1) := by decide +kernel
theorem dX5_carryOutOrder_0 : decode cX5_carryOutOrder 0 = .ok (.aload_n 0, 1) := by decide +kernel
theorem dX5_carryOutOrder_1 : decode cX5_carryOutOrder 1 = .ok (.getfield 29, 3) := by decide +kernel
theorem dX5_carryOutOrder_4 : decode cX5_carryOutOrder 4 = .ok (.getfield 212, 3) := by decide +kernel
theorem dX5_carryOutOrder_7 : decode cX5_carryOutOrder 7 = .ok (.iconst 0, 1) := by decide +kernel
theorem dX5_carryOutOrder_8 : decode cX5_carryOutOrder 8 = .ok (.iaload, 1) := by decide +kernel
theorem dX5_carryOutOrder_9 : decode cX5_carryOutOrder 9 = .ok (.istore_n 1, 1) := by decide +kernel
theorem dX5_carryOutOrder_10 : decode cX5_carryOutOrder 10 = .ok (.aload_n 0, 1) := by decide +kernel
theorem dX5_carryOutOrder_11 : decode cX5_carryOutOrder 11 = .ok (.getfield 29, 3) := by decide +kernel
theorem dX5_carryOutOrder_14 : decode cX5_carryOutOrder 14 = .ok (.getfield 212, 3) := by decide +kernel
theorem dX5_carryOutOrder_17 : decode cX5_carryOutOrder 17 = .ok (.iconst 1, 1) := by decide +kernel
theorem dX5_carryOutOrder_18 : decode cX5_carryOutOrder 18 = .ok (.iaload, 1) := by decide +kernel
theorem dX5_carryOutOrder_19 : decode cX5_carryOutOrder 19 = .ok (.istore_n 2, 1) := by decide +kernel
theorem dX5_carryOutOrder_20 : decode cX5_carryOutOrder 20 = .ok (.aload_n 0, 1) := by decide +kernel
theorem dX5_carryOutOrder_21 : decode cX5_carryOutOrder 21 = .ok (.getfield 29, 3) := by decide +kernel
theorem dX5_carryOutOrder_24 : decode cX5_carryOutOrder 24 = .ok (.getfield 212, 3) := by decide +kernel
theorem dX5_carryOutOrder_27 : decode cX5_carryOutOrder 27 = .ok (.iconst 2, 1) := by decide +kernel
theorem dX5_carryOutOrder_28 : decode cX5_carryOutOrder 28 = .ok (.iaload, 1) := by decide +kernel
theorem dX5_carryOutOrder_29 : decode cX5_carryOutOrder 29 = .ok (.istore_n 3, 1) := by decide +kernel
theorem dX5_carryOutOrder_30 : decode cX5_carryOutOrder 30 = .ok (.aload_n 0, 1) := by decide +kernel
theorem dX5_carryOutOrder_31 : decode cX5_carryOutOrder 31 = .ok (.getfield 29, 3) := by decide +kernel
theorem dX5_carryOutOrder_34 : decode cX5_carryOutOrder 34 = .ok (.getfield 215, 3) := by decide +kernel
theorem dX5_carryOutOrder_37 : decode cX5_carryOutOrder 37 = .ok (.lookupswitch 118 #[(97, 90), (98, 59), (105, 69), (111, 80), (116, 109), (119, 99)], 59) := by decide +kernel
theorem dX5_carryOutOrder_96 : decode cX5_carryOutOrder 96 = .ok (.aload_n 0, 1) := by decide +kernel
theorem dX5_carryOutOrder_97 : decode cX5_carryOutOrder 97 = .ok (.getfield 10, 3) := by decide +kernel
theorem dX5_carryOutOrder_100 : decode cX5_carryOutOrder 100 = .ok (.iload_n 1, 1) := by decide +kernel
theorem dX5_carryOutOrder_101 : decode cX5_carryOutOrder 101 = .ok (.iload_n 2, 1) := by decide +kernel
theorem dX5_carryOutOrder_102 : decode cX5_carryOutOrder 102 = .ok (.invokevirtual 53, 3) := by decide +kernel
theorem dX5_carryOutOrder_105 : decode cX5_carryOutOrder 105 = .ok (.ireturn, 1) := by decide +kernel
theorem dX5_carryOutOrder_106 : decode cX5_carryOutOrder 106 = .ok (.aload_n 0, 1) := by decide +kernel
theorem dX5_carryOutOrder_107 : decode cX5_carryOutOrder 107 = .ok (.getfield 10, 3) := by decide +kernel
theorem dX5_carryOutOrder_110 : decode cX5_carryOutOrder 110 = .ok (.iload_n 1, 1) := by decide +kernel
theorem dX5_carryOutOrder_111 : decode cX5_carryOutOrder 111 = .ok (.iload_n 2, 1) := by decide +kernel
theorem dX5_carryOutOrder_112 : decode cX5_carryOutOrder 112 = .ok (.iload_n 3, 1) := by decide +kernel
theorem dX5_carryOutOrder_113 : decode cX5_carryOutOrder 113 = .ok (.invokevirtual 56, 3) := by decide +kernel
theorem dX5_carryOutOrder_116 : decode cX5_carryOutOrder 116 = .ok (.ireturn, 1) := by decide +kernel
theorem dX5_carryOutOrder_117 : decode cX5_carryOutOrder 117 = .ok (.aload_n 0, 1) := by decide +kernel
theorem dX5_carryOutOrder_118 : decode cX5_carryOutOrder 118 = .ok (.getfield 10, 3) := by decide +kernel
theorem dX5_carryOutOrder_121 : decode cX5_carryOutOrder 121 = .ok (.iload_n 1, 1) := by decide +kernel
theorem dX5_carryOutOrder_122 : decode cX5_carryOutOrder 122 = .ok (.iload_n 2, 1) := by decide +kernel
theorem dX5_carryOutOrder_123 : decode cX5_carryOutOrder 123 = .ok (.invokevirtual 60, 3) := by decide +kernel
theorem dX5_carryOutOrder_126 : decode cX5_carryOutOrder 126 = .ok (.ireturn, 1) := by decide +kernel
theorem dX5_carryOutOrder_127 : decode cX5_carryOutOrder 127 = .ok (.aload_n 0, 1) := by decide +kernel
theorem dX5_carryOutOrder_128 : decode cX5_carryOutOrder 128 = .ok (.getfield 10, 3) := by decide +kernel
theorem dX5_carryOutOrder_131 : decode cX5_carryOutOrder 131 = .ok (.iload_n 1, 1) := by decide +kernel
theorem dX5_carryOutOrder_132 : decode cX5_carryOutOrder 132 = .ok (.invokevirtual 63, 3) := by decide +kernel
theorem dX5_carryOutOrder_135 : decode cX5_carryOutOrder 135 = .ok (.ireturn, 1) := by decide +kernel
theorem dX5_carryOutOrder_136 : decode cX5_carryOutOrder 136 = .ok (.aload_n 0, 1) := by decide +kernel
theorem dX5_carryOutOrder_137 : decode cX5_carryOutOrder 137 = .ok (.getfield 10, 3) := by decide +kernel
theorem dX5_carryOutOrder_140 : decode cX5_carryOutOrder 140 = .ok (.iload_n 1, 1) := by decide +kernel
theorem dX5_carryOutOrder_141 : decode cX5_carryOutOrder 141 = .ok (.iload_n 2, 1) := by decide +kernel
theorem dX5_carryOutOrder_142 : decode cX5_carryOutOrder 142 = .ok (.invokevirtual 66, 3) := by decide +kernel
theorem dX5_carryOutOrder_145 : decode cX5_carryOutOrder 145 = .ok (.ireturn, 1) := by decide +kernel
theorem dX5_carryOutOrder_146 : decode cX5_carryOutOrder 146 = .ok (.aload_n 0, 1) := by decide +kernel
theorem dX5_carryOutOrder_147 : decode cX5_carryOutOrder 147 = .ok (.getfield 10, 3) := by decide +kernel
theorem dX5_carryOutOrder_150 : decode cX5_carryOutOrder 150 = .ok (.iload_n 1, 1) := by decide +kernel
theorem dX5_carryOutOrder_151 : decode cX5_carryOutOrder 151 = .ok (.invokevirtual 69, 3) := by decide +kernel
theorem dX5_carryOutOrder_154 : decode cX5_carryOutOrder 154 = .ok (.ireturn, 1) := by decide +kernel
theorem dX5_carryOutOrder_155 : decode cX5_carryOutOrder 155 = .ok (.bipush (-3), 2) := by decide +kernel
theorem dX5_carryOutOrder_157 : decode cX5_carryOutOrder 157 = .ok (.ireturn, 1) := by decide +kernel
theorem dJ9_floorMod_7cf53_0 : decode cJ9_floorMod_7cf53 0 = .ok (.iload_n 0, 1) := by decide +kernel
theorem dJ9_floorMod_7cf53_1 : decode cJ9_floorMod_7cf53 1 = .ok (.iload_n 1, 1) := by decide +kernel
theorem dJ9_floorMod_7cf53_2 : decode cJ9_floorMod_7cf53 2 = .ok (.irem, 1) := by decide +kernel
theorem dJ9_floorMod_7cf53_3 : decode cJ9_floorMod_7cf53 3 = .ok (.istore_n 2, 1) := by decide +kernel
theorem dJ9_floorMod_7cf53_4 : decode cJ9_floorMod_7cf53 4 = .ok (.iload_n 0, 1) := by decide +kernel
theorem dJ9_floorMod_7cf53_5 : decode cJ9_floorMod_7cf53 5 = .ok (.iload_n 1, 1) := by decide +kernel
theorem dJ9_floorMod_7cf53_6 : decode cJ9_floorMod_7cf53 6 = .ok (.ixor, 1) := by decide +kernel
theorem dJ9_floorMod_7cf53_7 : decode cJ9_floorMod_7cf53 7 = .ok (.ifCond .ge 11, 3) := by decide +kernel
theorem dJ9_floorMod_7cf53_10 : decode cJ9_floorMod_7cf53 10 = .ok (.iload_n 2, 1) := by decide +kernel
theorem dJ9_floorMod_7cf53_11 : decode cJ9_floorMod_7cf53 11 = .ok (.ifCond .eq 7, 3) := by decide +kernel
theorem dJ9_floorMod_7cf53_14 : decode cJ9_floorMod_7cf53 14 = .ok (.iload_n 2, 1) := by decide +kernel
theorem dJ9_floorMod_7cf53_15 : decode cJ9_floorMod_7cf53 15 = .ok (.iload_n 1, 1) := by decide +kernel
theorem dJ9_floorMod_7cf53_16 : decode cJ9_floorMod_7cf53 16 = .ok (.iadd, 1) := by decide +kernel
theorem dJ9_floorMod_7cf53_17 : decode cJ9_floorMod_7cf53 17 = .ok (.ireturn, 1) := by decide +kernel
theorem dJ9_floorMod_7cf53_18 : decode cJ9_floorMod_7cf53 18 = .ok (.iload_n 2, 1) := by decide +kernel
theorem dJ9_floorMod_7cf53_19 : decode cJ9_floorMod_7cf53 19 = .ok (.ireturn, 1) := by decide +kernel
theorem dJ9_max_7cf53_0 : decode cJ9_max_7cf53 0 = .ok (.iload_n 0, 1) := by decide +kernel
theorem dJ9_max_7cf53_1 : decode cJ9_max_7cf53 1 = .ok (.iload_n 1, 1) := by decide +kernel
theorem dJ9_max_7cf53_2 : decode cJ9_max_7cf53 2 = .ok (.if_icmp .lt 7, 3) := by decide +kernel
theorem dJ9_max_7cf53_5 : decode cJ9_max_7cf53 5 = .ok (.iload_n 0, 1) := by decide +kernel
theorem dJ9_max_7cf53_6 : decode cJ9_max_7cf53 6 = .ok (.goto 4, 3) := by decide +kernel
theorem dJ9_max_7cf53_9 : decode cJ9_max_7cf53 9 = .ok (.iload_n 1, 1) := by decide +kernel
theorem dJ9_max_7cf53_10 : decode cJ9_max_7cf53 10 = .ok (.ireturn, 1) := by decide +kernel
theorem dJ9_min_7cf53_0 : decode cJ9_min_7cf53 0 = .ok (.iload_n 0, 1) := by decide +kernel
theorem dJ9_min_7cf53_1 : decode cJ9_min_7cf53 1 = .ok (.iload_n 1, 1) := by decide +kernel
theorem dJ9_min_7cf53_2 : decode cJ9_min_7cf53 2 = .ok (.if_icmp .gt 7, 3) := by decide +kernel
theorem dJ9_min_7cf53_5 : decode cJ9_min_7cf53 5 = .ok (.iload_n 0, 1) := by decide +kernel
theorem dJ9_min_7cf53_6 : decode cJ9_min_7cf53 6 = .ok (.goto 4, 3) := by decide +kernel
theorem dJ9_min_7cf53_9 : decode cJ9_min_7cf53 9 = .ok (.iload_n 1, 1) := by decide +kernel
theorem dJ9_min_7cf53_10 : decode cJ9_min_7cf53 10 = .ok (.ireturn, 1) := by decide +kernel
theorem dJ0_length_8abf5_0 : decode cJ0_length_8abf5 0 = .ok (.aload_n 0, 1) := by decide +kernel
theorem dJ0_length_8abf5_1 : decode cJ0_length_8abf5 1 = .ok (.getfield 9, 3) := by decide +kernel
theorem dJ0_length_8abf5_4 : decode cJ0_length_8abf5 4 = .ok (.arraylength, 1) := by decide +kernel
theorem dJ0_length_8abf5_5 : decode cJ0_length_8abf5 5 = .ok (.aload_n 0, 1) := by decide +kernel
theorem dJ0_length_8abf5_6 : decode cJ0_length_8abf5 6 = .ok (.invokevirtual 335, 3) := by decide +kernel
theorem dJ0_length_8abf5_9 : decode cJ0_length_8abf5 9 = .ok (.ishr, 1) := by decide +kernel
theorem dJ0_length_8abf5_10 : decode cJ0_length_8abf5 10 = .ok (.ireturn, 1) := by decide +kernel
theorem dJ0_isEmpty_aae02_0 : decode cJ0_isEmpty_aae02 0 = .ok (.aload_n 0, 1) := by decide +kernel
theorem dJ0_isEmpty_aae02_1 : decode cJ0_isEmpty_aae02 1 = .ok (.getfield 9, 3) := by decide +kernel
theorem dJ0_isEmpty_aae02_4 : decode cJ0_isEmpty_aae02 4 = .ok (.arraylength, 1) := by decide +kernel
theorem dJ0_isEmpty_aae02_5 : decode cJ0_isEmpty_aae02 5 = .ok (.ifCond .ne 7, 3) := by decide +kernel
theorem dJ0_isEmpty_aae02_8 : decode cJ0_isEmpty_aae02 8 = .ok (.iconst 1, 1) := by decide +kernel
theorem dJ0_isEmpty_aae02_9 : decode cJ0_isEmpty_aae02 9 = .ok (.goto 4, 3) := by decide +kernel
theorem dJ0_isEmpty_aae02_12 : decode cJ0_isEmpty_aae02 12 = .ok (.iconst 0, 1) := by decide +kernel
theorem dJ0_isEmpty_aae02_13 : decode cJ0_isEmpty_aae02 13 = .ok (.ireturn, 1) := by decide +kernel
theorem dJ0_charAt_5068e_0 : decode cJ0_charAt_5068e 0 = .ok (.aload_n 0, 1) := by decide +kernel
theorem dJ0_charAt_5068e_1 : decode cJ0_charAt_5068e 1 = .ok (.invokevirtual 492, 3) := by decide +kernel
theorem dJ0_charAt_5068e_4 : decode cJ0_charAt_5068e 4 = .ok (.ifCond .eq 12, 3) := by decide +kernel
theorem dJ0_charAt_5068e_7 : decode cJ0_charAt_5068e 7 = .ok (.aload_n 0, 1) := by decide +kernel
theorem dJ0_charAt_5068e_8 : decode cJ0_charAt_5068e 8 = .ok (.getfield 9, 3) := by decide +kernel
theorem dJ0_charAt_5068e_11 : decode cJ0_charAt_5068e 11 = .ok (.iload_n 1, 1) := by decide +kernel
theorem dJ0_charAt_5068e_12 : decode cJ0_charAt_5068e 12 = .ok (.invokestatic 495, 3) := by decide +kernel
theorem dJ0_charAt_5068e_15 : decode cJ0_charAt_5068e 15 = .ok (.ireturn, 1) := by decide +kernel
theorem dJ0_charAt_5068e_16 : decode cJ0_charAt_5068e 16 = .ok (.aload_n 0, 1) := by decide +kernel
theorem dJ0_charAt_5068e_17 : decode cJ0_charAt_5068e 17 = .ok (.getfield 9, 3) := by decide +kernel
theorem dJ0_charAt_5068e_20 : decode cJ0_charAt_5068e 20 = .ok (.iload_n 1, 1) := by decide +kernel
theorem dJ0_charAt_5068e_21 : decode cJ0_charAt_5068e 21 = .ok (.invokestatic 498, 3) := by decide +kernel
theorem dJ0_charAt_5068e_24 : decode cJ0_charAt_5068e 24 = .ok (.ireturn, 1) := by decide +kernel
theorem dJ0_coder_7d493_0 : decode cJ0_coder_7d493 0 = .ok (.getstatic 38, 3) := by decide +kernel
theorem dJ0_coder_7d493_3 : decode cJ0_coder_7d493 3 = .ok (.ifCond .eq 10, 3) := by decide +kernel
theorem dJ0_coder_7d493_6 : decode cJ0_coder_7d493 6 = .ok (.aload_n 0, 1) := by decide +kernel
theorem dJ0_coder_7d493_7 : decode cJ0_coder_7d493 7 = .ok (.getfield 15, 3) := by decide +kernel
theorem dJ0_coder_7d493_10 : decode cJ0_coder_7d493 10 = .ok (.goto 4, 3) := by decide +kernel
theorem dJ0_coder_7d493_13 : decode cJ0_coder_7d493 13 = .ok (.iconst 1, 1) := by decide +kernel
theorem dJ0_coder_7d493_14 : decode cJ0_coder_7d493 14 = .ok (.ireturn, 1) := by decide +kernel
theorem dJ0_isLatin1_aae02_0 : decode cJ0_isLatin1_aae02 0 = .ok (.getstatic 38, 3) := by decide +kernel
theorem dJ0_isLatin1_aae02_3 : decode cJ0_isLatin1_aae02 3 = .ok (.ifCond .eq 14, 3) := by decide +kernel
theorem dJ0_isLatin1_aae02_6 : decode cJ0_isLatin1_aae02 6 = .ok (.aload_n 0, 1) := by decide +kernel
theorem dJ0_isLatin1_aae02_7 : decode cJ0_isLatin1_aae02 7 = .ok (.getfield 15, 3) := by decide +kernel
theorem dJ0_isLatin1_aae02_10 : decode cJ0_isLatin1_aae02 10 = .ok (.ifCond .ne 7, 3) := by decide +kernel
theorem dJ0_isLatin1_aae02_13 : decode cJ0_isLatin1_aae02 13 = .ok (.iconst 1, 1) := by decide +kernel
theorem dJ0_isLatin1_aae02_14 : decode cJ0_isLatin1_aae02 14 = .ok (.goto 4, 3) := by decide +kernel
theorem dJ0_isLatin1_aae02_17 : decode cJ0_isLatin1_aae02 17 = .ok (.iconst 0, 1) := by decide +kernel
theorem dJ0_isLatin1_aae02_18 : decode cJ0_isLatin1_aae02 18 = .ok (.ireturn, 1) := by decide +kernel
theorem dJ0_checkIndex_df160_0 : decode cJ0_checkIndex_df160 0 = .ok (.iload_n 0, 1) := by decide +kernel
theorem dJ0_checkIndex_df160_1 : decode cJ0_checkIndex_df160 1 = .ok (.iload_n 1, 1) := by decide +kernel
theorem dJ0_checkIndex_df160_2 : decode cJ0_checkIndex_df160 2 = .ok (.getstatic 1053, 3) := by decide +kernel
theorem dJ0_checkIndex_df160_5 : decode cJ0_checkIndex_df160 5 = .ok (.invokestatic 1059, 3) := by decide +kernel
theorem dJ0_checkIndex_df160_8 : decode cJ0_checkIndex_df160 8 = .ok (.pop, 1) := by decide +kernel
theorem dJ0_checkIndex_df160_9 : decode cJ0_checkIndex_df160 9 = .ok (.return_, 1) := by decide +kernel
theorem dJ1_charAt_3b067_0 : decode cJ1_charAt_3b067 0 = .ok (.iload_n 1, 1) := by decide +kernel
theorem dJ1_charAt_3b067_1 : decode cJ1_charAt_3b067 1 = .ok (.aload_n 0, 1) := by decide +kernel
theorem dJ1_charAt_3b067_2 : decode cJ1_charAt_3b067 2 = .ok (.arraylength, 1) := by decide +kernel
theorem dJ1_charAt_3b067_3 : decode cJ1_charAt_3b067 3 = .ok (.invokestatic 9, 3) := by decide +kernel
theorem dJ1_charAt_3b067_6 : decode cJ1_charAt_3b067 6 = .ok (.aload_n 0, 1) := by decide +kernel
theorem dJ1_charAt_3b067_7 : decode cJ1_charAt_3b067 7 = .ok (.iload_n 1, 1) := by decide +kernel
theorem dJ1_charAt_3b067_8 : decode cJ1_charAt_3b067 8 = .ok (.baload, 1) := by decide +kernel
theorem dJ1_charAt_3b067_9 : decode cJ1_charAt_3b067 9 = .ok (.sipush 255, 3) := by decide +kernel
theorem dJ1_charAt_3b067_12 : decode cJ1_charAt_3b067 12 = .ok (.iand, 1) := by decide +kernel
theorem dJ1_charAt_3b067_13 : decode cJ1_charAt_3b067 13 = .ok (.i2c, 1) := by decide +kernel
theorem dJ1_charAt_3b067_14 : decode cJ1_charAt_3b067 14 = .ok (.ireturn, 1) := by decide +kernel
theorem dJ2_getChar_3b067_0 : decode cJ2_getChar_3b067 0 = .ok (.getstatic 44, 3) := by decide +kernel
theorem dJ2_getChar_3b067_3 : decode cJ2_getChar_3b067 3 = .ok (.ifCond .ne 25, 3) := by decide +kernel
theorem dJ2_getChar_3b067_6 : decode cJ2_getChar_3b067 6 = .ok (.iload_n 1, 1) := by decide +kernel
theorem dJ2_getChar_3b067_7 : decode cJ2_getChar_3b067 7 = .ok (.ifCond .lt 11, 3) := by decide +kernel
theorem dJ2_getChar_3b067_10 : decode cJ2_getChar_3b067 10 = .ok (.iload_n 1, 1) := by decide +kernel
theorem dJ2_getChar_3b067_11 : decode cJ2_getChar_3b067 11 = .ok (.aload_n 0, 1) := by decide +kernel
theorem dJ2_getChar_3b067_12 : decode cJ2_getChar_3b067 12 = .ok (.invokestatic 48, 3) := by decide +kernel
theorem dJ2_getChar_3b067_15 : decode cJ2_getChar_3b067 15 = .ok (.if_icmp .lt 13, 3) := by decide +kernel
theorem dJ2_getChar_3b067_18 : decode cJ2_getChar_3b067 18 = .ok (.new 52, 3) := by decide +kernel
theorem dJ2_getChar_3b067_21 : decode cJ2_getChar_3b067 21 = .ok (.dup, 1) := by decide +kernel
theorem dJ2_getChar_3b067_22 : decode cJ2_getChar_3b067 22 = .ok (.ldc 54, 2) := by decide +kernel
theorem dJ2_getChar_3b067_24 : decode cJ2_getChar_3b067 24 = .ok (.invokespecial 56, 3) := by decide +kernel
theorem dJ2_getChar_3b067_27 : decode cJ2_getChar_3b067 27 = .ok (.athrow, 1) := by decide +kernel
theorem dJ2_getChar_3b067_28 : decode cJ2_getChar_3b067 28 = .ok (.iload_n 1, 1) := by decide +kernel
theorem dJ2_getChar_3b067_29 : decode cJ2_getChar_3b067 29 = .ok (.iconst 1, 1) := by decide +kernel
theorem dJ2_getChar_3b067_30 : decode cJ2_getChar_3b067 30 = .ok (.ishl, 1) := by decide +kernel
theorem dJ2_getChar_3b067_31 : decode cJ2_getChar_3b067 31 = .ok (.istore_n 1, 1) := by decide +kernel
theorem dJ2_getChar_3b067_32 : decode cJ2_getChar_3b067 32 = .ok (.aload_n 0, 1) := by decide +kernel
theorem dJ2_getChar_3b067_33 : decode cJ2_getChar_3b067 33 = .ok (.iload_n 1, 1) := by decide +kernel
theorem dJ2_getChar_3b067_34 : decode cJ2_getChar_3b067 34 = .ok (.iinc 1 1, 3) := by decide +kernel
theorem dJ2_getChar_3b067_37 : decode cJ2_getChar_3b067 37 = .ok (.baload, 1) := by decide +kernel
theorem dJ2_getChar_3b067_38 : decode cJ2_getChar_3b067 38 = .ok (.sipush 255, 3) := by decide +kernel
theorem dJ2_getChar_3b067_41 : decode cJ2_getChar_3b067 41 = .ok (.iand, 1) := by decide +kernel
theorem dJ2_getChar_3b067_42 : decode cJ2_getChar_3b067 42 = .ok (.getstatic 59, 3) := by decide +kernel
theorem dJ2_getChar_3b067_45 : decode cJ2_getChar_3b067 45 = .ok (.ishl, 1) := by decide +kernel
theorem dJ2_getChar_3b067_46 : decode cJ2_getChar_3b067 46 = .ok (.aload_n 0, 1) := by decide +kernel
theorem dJ2_getChar_3b067_47 : decode cJ2_getChar_3b067 47 = .ok (.iload_n 1, 1) := by decide +kernel
theorem dJ2_getChar_3b067_48 : decode cJ2_getChar_3b067 48 = .ok (.baload, 1) := by decide +kernel
theorem dJ2_getChar_3b067_49 : decode cJ2_getChar_3b067 49 = .ok (.sipush 255, 3) := by decide +kernel
theorem dJ2_getChar_3b067_52 : decode cJ2_getChar_3b067 52 = .ok (.iand, 1) := by decide +kernel
theorem dJ2_getChar_3b067_53 : decode cJ2_getChar_3b067 53 = .ok (.getstatic 63, 3) := by decide +kernel
theorem dJ2_getChar_3b067_56 : decode cJ2_getChar_3b067 56 = .ok (.ishl, 1) := by decide +kernel
theorem dJ2_getChar_3b067_57 : decode cJ2_getChar_3b067 57 = .ok (.ior, 1) := by decide +kernel
theorem dJ2_getChar_3b067_58 : decode cJ2_getChar_3b067 58 = .ok (.i2c, 1) := by decide +kernel
theorem dJ2_getChar_3b067_59 : decode cJ2_getChar_3b067 59 = .ok (.ireturn, 1) := by decide +kernel
theorem dJ2_length_9d52b_0 : decode cJ2_length_9d52b 0 = .ok (.aload_n 0, 1) := by decide +kernel
theorem dJ2_length_9d52b_1 : decode cJ2_length_9d52b 1 = .ok (.arraylength, 1) := by decide +kernel
theorem dJ2_length_9d52b_2 : decode cJ2_length_9d52b 2 = .ok (.iconst 1, 1) := by decide +kernel
theorem dJ2_length_9d52b_3 : decode cJ2_length_9d52b 3 = .ok (.ishr, 1) := by decide +kernel
theorem dJ2_length_9d52b_4 : decode cJ2_length_9d52b 4 = .ok (.ireturn, 1) := by decide +kernel
theorem dJ2_charAt_3b067_0 : decode cJ2_charAt_3b067 0 = .ok (.iload_n 1, 1) := by decide +kernel
theorem dJ2_charAt_3b067_1 : decode cJ2_charAt_3b067 1 = .ok (.aload_n 0, 1) := by decide +kernel
theorem dJ2_charAt_3b067_2 : decode cJ2_charAt_3b067 2 = .ok (.invokestatic 67, 3) := by decide +kernel
theorem dJ2_charAt_3b067_5 : decode cJ2_charAt_3b067 5 = .ok (.aload_n 0, 1) := by decide +kernel
theorem dJ2_charAt_3b067_6 : decode cJ2_charAt_3b067 6 = .ok (.iload_n 1, 1) := by decide +kernel
theorem dJ2_charAt_3b067_7 : decode cJ2_charAt_3b067 7 = .ok (.invokestatic 71, 3) := by decide +kernel
theorem dJ2_charAt_3b067_10 : decode cJ2_charAt_3b067 10 = .ok (.ireturn, 1) := by decide +kernel
theorem dJ2_checkIndex_2214a_0 : decode cJ2_checkIndex_2214a 0 = .ok (.iload_n 0, 1) := by decide +kernel
theorem dJ2_checkIndex_2214a_1 : decode cJ2_checkIndex_2214a 1 = .ok (.aload_n 1, 1) := by decide +kernel
theorem dJ2_checkIndex_2214a_2 : decode cJ2_checkIndex_2214a 2 = .ok (.invokestatic 48, 3) := by decide +kernel
theorem dJ2_checkIndex_2214a_5 : decode cJ2_checkIndex_2214a 5 = .ok (.invokestatic 414, 3) := by decide +kernel
theorem dJ2_checkIndex_2214a_8 : decode cJ2_checkIndex_2214a 8 = .ok (.return_, 1) := by decide +kernel
theorem dJ3_checkIndex_8e157_0 : decode cJ3_checkIndex_8e157 0 = .ok (.iload_n 0, 1) := by decide +kernel
theorem dJ3_checkIndex_8e157_1 : decode cJ3_checkIndex_8e157 1 = .ok (.ifCond .lt 8, 3) := by decide +kernel
theorem dJ3_checkIndex_8e157_4 : decode cJ3_checkIndex_8e157 4 = .ok (.iload_n 0, 1) := by decide +kernel
theorem dJ3_checkIndex_8e157_5 : decode cJ3_checkIndex_8e157 5 = .ok (.iload_n 1, 1) := by decide +kernel
theorem dJ3_checkIndex_8e157_6 : decode cJ3_checkIndex_8e157 6 = .ok (.if_icmp .lt 10, 3) := by decide +kernel
theorem dJ3_checkIndex_8e157_9 : decode cJ3_checkIndex_8e157 9 = .ok (.aload_n 2, 1) := by decide +kernel
theorem dJ3_checkIndex_8e157_10 : decode cJ3_checkIndex_8e157 10 = .ok (.iload_n 0, 1) := by decide +kernel
theorem dJ3_checkIndex_8e157_11 : decode cJ3_checkIndex_8e157 11 = .ok (.iload_n 1, 1) := by decide +kernel
theorem dJ3_checkIndex_8e157_12 : decode cJ3_checkIndex_8e157 12 = .ok (.invokestatic 95, 3) := by decide +kernel
theorem dJ3_checkIndex_8e157_15 : decode cJ3_checkIndex_8e157 15 = .ok (.athrow, 1) := by decide +kernel
theorem dJ3_checkIndex_8e157_16 : decode cJ3_checkIndex_8e157 16 = .ok (.iload_n 0, 1) := by decide +kernel
theorem dJ3_checkIndex_8e157_17 : decode cJ3_checkIndex_8e157 17 = .ok (.ireturn, 1) := by decide +kernel
