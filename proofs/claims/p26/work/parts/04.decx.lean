theorem dX0_init_0 : decode cX0_init 0 = .ok (.aload_n 0, 1) := by decide +kernel
theorem dX0_init_1 : decode cX0_init 1 = .ok (.invokespecial 3, 3) := by decide +kernel
theorem dX0_init_4 : decode cX0_init 4 = .ok (.aload_n 0, 1) := by decide +kernel
theorem dX0_init_5 : decode cX0_init 5 = .ok (.iconst 4, 1) := by decide +kernel
theorem dX0_init_6 : decode cX0_init 6 = .ok (.newarray .int, 2) := by decide +kernel
theorem dX0_init_8 : decode cX0_init 8 = .ok (.putfield 9, 3) := by decide +kernel
theorem dX0_init_11 : decode cX0_init 11 = .ok (.aload_n 0, 1) := by decide +kernel
theorem dX0_init_12 : decode cX0_init 12 = .ok (.new 15, 3) := by decide +kernel
theorem dX0_init_15 : decode cX0_init 15 = .ok (.dup, 1) := by decide +kernel
theorem dX0_init_16 : decode cX0_init 16 = .ok (.invokespecial 17, 3) := by decide +kernel
theorem dX0_init_19 : decode cX0_init 19 = .ok (.putfield 18, 3) := by decide +kernel
theorem dX0_init_22 : decode cX0_init 22 = .ok (.return_, 1) := by decide +kernel
theorem dX0_takeName_0 : decode cX0_takeName 0 = .ok (.iconst 0, 1) := by decide +kernel
theorem dX0_takeName_1 : decode cX0_takeName 1 = .ok (.istore_n 3, 1) := by decide +kernel
theorem dX0_takeName_2 : decode cX0_takeName 2 = .ok (.iload_n 3, 1) := by decide +kernel
theorem dX0_takeName_3 : decode cX0_takeName 3 = .ok (.iload_n 1, 1) := by decide +kernel
theorem dX0_takeName_4 : decode cX0_takeName 4 = .ok (.if_icmp .ge 20, 3) := by decide +kernel
theorem dX0_takeName_7 : decode cX0_takeName 7 = .ok (.aload_n 0, 1) := by decide +kernel
theorem dX0_takeName_8 : decode cX0_takeName 8 = .ok (.getfield 9, 3) := by decide +kernel
theorem dX0_takeName_11 : decode cX0_takeName 11 = .ok (.iload_n 3, 1) := by decide +kernel
theorem dX0_takeName_12 : decode cX0_takeName 12 = .ok (.iload_n 2, 1) := by decide +kernel
theorem dX0_takeName_13 : decode cX0_takeName 13 = .ok (.iload_n 3, 1) := by decide +kernel
theorem dX0_takeName_14 : decode cX0_takeName 14 = .ok (.invokestatic 22, 3) := by decide +kernel
theorem dX0_takeName_17 : decode cX0_takeName 17 = .ok (.iastore, 1) := by decide +kernel
theorem dX0_takeName_18 : decode cX0_takeName 18 = .ok (.iinc 3 1, 3) := by decide +kernel
theorem dX0_takeName_21 : decode cX0_takeName 21 = .ok (.goto (-19), 3) := by decide +kernel
theorem dX0_takeName_24 : decode cX0_takeName 24 = .ok (.aload_n 0, 1) := by decide +kernel
theorem dX0_takeName_25 : decode cX0_takeName 25 = .ok (.iload_n 1, 1) := by decide +kernel
theorem dX0_takeName_26 : decode cX0_takeName 26 = .ok (.putfield 26, 3) := by decide +kernel
theorem dX0_takeName_29 : decode cX0_takeName 29 = .ok (.return_, 1) := by decide +kernel
theorem dX0_putKey_0 : decode cX0_putKey 0 = .ok (.aload_n 0, 1) := by decide +kernel
theorem dX0_putKey_1 : decode cX0_putKey 1 = .ok (.iconst 0, 1) := by decide +kernel
theorem dX0_putKey_2 : decode cX0_putKey 2 = .ok (.aload_n 1, 1) := by decide +kernel
theorem dX0_putKey_3 : decode cX0_putKey 3 = .ok (.aload_n 2, 1) := by decide +kernel
theorem dX0_putKey_4 : decode cX0_putKey 4 = .ok (.iconst 0, 1) := by decide +kernel
theorem dX0_putKey_5 : decode cX0_putKey 5 = .ok (.invokevirtual 30, 3) := by decide +kernel
theorem dX0_putKey_8 : decode cX0_putKey 8 = .ok (.istore_n 3, 1) := by decide +kernel
theorem dX0_putKey_9 : decode cX0_putKey 9 = .ok (.aload_n 0, 1) := by decide +kernel
theorem dX0_putKey_10 : decode cX0_putKey 10 = .ok (.iconst 2, 1) := by decide +kernel
theorem dX0_putKey_11 : decode cX0_putKey 11 = .ok (.aload_n 1, 1) := by decide +kernel
theorem dX0_putKey_12 : decode cX0_putKey 12 = .ok (.aload_n 2, 1) := by decide +kernel
theorem dX0_putKey_13 : decode cX0_putKey 13 = .ok (.iload_n 3, 1) := by decide +kernel
theorem dX0_putKey_14 : decode cX0_putKey 14 = .ok (.invokevirtual 30, 3) := by decide +kernel
theorem dX0_putKey_17 : decode cX0_putKey 17 = .ok (.istore 4, 2) := by decide +kernel
theorem dX0_putKey_19 : decode cX0_putKey 19 = .ok (.iload 4, 2) := by decide +kernel
theorem dX0_putKey_21 : decode cX0_putKey 21 = .ok (.ifCond .le 8, 3) := by decide +kernel
theorem dX0_putKey_24 : decode cX0_putKey 24 = .ok (.iload 4, 2) := by decide +kernel
theorem dX0_putKey_26 : decode cX0_putKey 26 = .ok (.goto 11, 3) := by decide +kernel
theorem dX0_putKey_29 : decode cX0_putKey 29 = .ok (.aload_n 0, 1) := by decide +kernel
theorem dX0_putKey_30 : decode cX0_putKey 30 = .ok (.iconst 1, 1) := by decide +kernel
theorem dX0_putKey_31 : decode cX0_putKey 31 = .ok (.aload_n 1, 1) := by decide +kernel
theorem dX0_putKey_32 : decode cX0_putKey 32 = .ok (.aload_n 2, 1) := by decide +kernel
theorem dX0_putKey_33 : decode cX0_putKey 33 = .ok (.iconst 0, 1) := by decide +kernel
theorem dX0_putKey_34 : decode cX0_putKey 34 = .ok (.invokevirtual 30, 3) := by decide +kernel
theorem dX0_putKey_37 : decode cX0_putKey 37 = .ok (.ireturn, 1) := by decide +kernel
theorem dX0_putWordsOf_0 : decode cX0_putWordsOf 0 = .ok (.iload 4, 2) := by decide +kernel
theorem dX0_putWordsOf_2 : decode cX0_putWordsOf 2 = .ok (.istore 5, 2) := by decide +kernel
theorem dX0_putWordsOf_4 : decode cX0_putWordsOf 4 = .ok (.iconst 0, 1) := by decide +kernel
theorem dX0_putWordsOf_5 : decode cX0_putWordsOf 5 = .ok (.istore 6, 2) := by decide +kernel
theorem dX0_putWordsOf_7 : decode cX0_putWordsOf 7 = .ok (.iload 6, 2) := by decide +kernel
theorem dX0_putWordsOf_9 : decode cX0_putWordsOf 9 = .ok (.aload_n 0, 1) := by decide +kernel
theorem dX0_putWordsOf_10 : decode cX0_putWordsOf 10 = .ok (.getfield 26, 3) := by decide +kernel
theorem dX0_putWordsOf_13 : decode cX0_putWordsOf 13 = .ok (.if_icmp .ge 36, 3) := by decide +kernel
theorem dX0_putWordsOf_16 : decode cX0_putWordsOf 16 = .ok (.aload_n 2, 1) := by decide +kernel
theorem dX0_putWordsOf_17 : decode cX0_putWordsOf 17 = .ok (.aload_n 0, 1) := by decide +kernel
theorem dX0_putWordsOf_18 : decode cX0_putWordsOf 18 = .ok (.getfield 9, 3) := by decide +kernel
theorem dX0_putWordsOf_21 : decode cX0_putWordsOf 21 = .ok (.iload 6, 2) := by decide +kernel
theorem dX0_putWordsOf_23 : decode cX0_putWordsOf 23 = .ok (.iaload, 1) := by decide +kernel
theorem dX0_putWordsOf_24 : decode cX0_putWordsOf 24 = .ok (.iaload, 1) := by decide +kernel
theorem dX0_putWordsOf_25 : decode cX0_putWordsOf 25 = .ok (.iload_n 1, 1) := by decide +kernel
theorem dX0_putWordsOf_26 : decode cX0_putWordsOf 26 = .ok (.if_icmp .ne 17, 3) := by decide +kernel
theorem dX0_putWordsOf_29 : decode cX0_putWordsOf 29 = .ok (.aload_n 3, 1) := by decide +kernel
theorem dX0_putWordsOf_30 : decode cX0_putWordsOf 30 = .ok (.iload 5, 2) := by decide +kernel
theorem dX0_putWordsOf_32 : decode cX0_putWordsOf 32 = .ok (.aload_n 0, 1) := by decide +kernel
theorem dX0_putWordsOf_33 : decode cX0_putWordsOf 33 = .ok (.getfield 9, 3) := by decide +kernel
theorem dX0_putWordsOf_36 : decode cX0_putWordsOf 36 = .ok (.iload 6, 2) := by decide +kernel
theorem dX0_putWordsOf_38 : decode cX0_putWordsOf 38 = .ok (.iaload, 1) := by decide +kernel
theorem dX0_putWordsOf_39 : decode cX0_putWordsOf 39 = .ok (.iastore, 1) := by decide +kernel
theorem dX0_putWordsOf_40 : decode cX0_putWordsOf 40 = .ok (.iinc 5 1, 3) := by decide +kernel
theorem dX0_putWordsOf_43 : decode cX0_putWordsOf 43 = .ok (.iinc 6 1, 3) := by decide +kernel
theorem dX0_putWordsOf_46 : decode cX0_putWordsOf 46 = .ok (.goto (-39), 3) := by decide +kernel
theorem dX0_putWordsOf_49 : decode cX0_putWordsOf 49 = .ok (.iload 5, 2) := by decide +kernel
theorem dX0_putWordsOf_51 : decode cX0_putWordsOf 51 = .ok (.ireturn, 1) := by decide +kernel
theorem dX0_countMoved_0 : decode cX0_countMoved 0 = .ok (.iconst 0, 1) := by decide +kernel
theorem dX0_countMoved_1 : decode cX0_countMoved 1 = .ok (.istore_n 2, 1) := by decide +kernel
theorem dX0_countMoved_2 : decode cX0_countMoved 2 = .ok (.iconst 0, 1) := by decide +kernel
theorem dX0_countMoved_3 : decode cX0_countMoved 3 = .ok (.istore_n 3, 1) := by decide +kernel
theorem dX0_countMoved_4 : decode cX0_countMoved 4 = .ok (.iload_n 3, 1) := by decide +kernel
theorem dX0_countMoved_5 : decode cX0_countMoved 5 = .ok (.aload_n 0, 1) := by decide +kernel
theorem dX0_countMoved_6 : decode cX0_countMoved 6 = .ok (.getfield 26, 3) := by decide +kernel
theorem dX0_countMoved_9 : decode cX0_countMoved 9 = .ok (.if_icmp .ge 24, 3) := by decide +kernel
theorem dX0_countMoved_12 : decode cX0_countMoved 12 = .ok (.aload_n 1, 1) := by decide +kernel
theorem dX0_countMoved_13 : decode cX0_countMoved 13 = .ok (.aload_n 0, 1) := by decide +kernel
theorem dX0_countMoved_14 : decode cX0_countMoved 14 = .ok (.getfield 9, 3) := by decide +kernel
theorem dX0_countMoved_17 : decode cX0_countMoved 17 = .ok (.iload_n 3, 1) := by decide +kernel
theorem dX0_countMoved_18 : decode cX0_countMoved 18 = .ok (.iaload, 1) := by decide +kernel
theorem dX0_countMoved_19 : decode cX0_countMoved 19 = .ok (.iaload, 1) := by decide +kernel
theorem dX0_countMoved_20 : decode cX0_countMoved 20 = .ok (.iconst 2, 1) := by decide +kernel
theorem dX0_countMoved_21 : decode cX0_countMoved 21 = .ok (.if_icmp .ne 6, 3) := by decide +kernel
theorem dX0_countMoved_24 : decode cX0_countMoved 24 = .ok (.iinc 2 1, 3) := by decide +kernel
theorem dX0_countMoved_27 : decode cX0_countMoved 27 = .ok (.iinc 3 1, 3) := by decide +kernel
theorem dX0_countMoved_30 : decode cX0_countMoved 30 = .ok (.goto (-26), 3) := by decide +kernel
theorem dX0_countMoved_33 : decode cX0_countMoved 33 = .ok (.iload_n 2, 1) := by decide +kernel
theorem dX0_countMoved_34 : decode cX0_countMoved 34 = .ok (.ireturn, 1) := by decide +kernel
theorem dX1_init_0 : decode cX1_init 0 = .ok (.aload_n 0, 1) := by decide +kernel
theorem dX1_init_1 : decode cX1_init 1 = .ok (.invokespecial 3, 3) := by decide +kernel
theorem dX1_init_4 : decode cX1_init 4 = .ok (.aload_n 0, 1) := by decide +kernel
theorem dX1_init_5 : decode cX1_init 5 = .ok (.bipush 100, 2) := by decide +kernel
theorem dX1_init_7 : decode cX1_init 7 = .ok (.newarray .int, 2) := by decide +kernel
theorem dX1_init_9 : decode cX1_init 9 = .ok (.putfield 9, 3) := by decide +kernel
theorem dX1_init_12 : decode cX1_init 12 = .ok (.aload_n 0, 1) := by decide +kernel
theorem dX1_init_13 : decode cX1_init 13 = .ok (.bipush 10, 2) := by decide +kernel
theorem dX1_init_15 : decode cX1_init 15 = .ok (.newarray .int, 2) := by decide +kernel
theorem dX1_init_17 : decode cX1_init 17 = .ok (.putfield 15, 3) := by decide +kernel
theorem dX1_init_20 : decode cX1_init 20 = .ok (.aload_n 0, 1) := by decide +kernel
theorem dX1_init_21 : decode cX1_init 21 = .ok (.bipush 12, 2) := by decide +kernel
theorem dX1_init_23 : decode cX1_init 23 = .ok (.newarray .int, 2) := by decide +kernel
theorem dX1_init_25 : decode cX1_init 25 = .ok (.putfield 18, 3) := by decide +kernel
theorem dX1_init_28 : decode cX1_init 28 = .ok (.return_, 1) := by decide +kernel
theorem dX1_canGoTo_0 : decode cX1_canGoTo 0 = .ok (.aload_n 0, 1) := by decide +kernel
theorem dX1_canGoTo_1 : decode cX1_canGoTo 1 = .ok (.getfield 21, 3) := by decide +kernel
theorem dX1_canGoTo_4 : decode cX1_canGoTo 4 = .ok (.ifCond .ne 5, 3) := by decide +kernel
theorem dX1_canGoTo_7 : decode cX1_canGoTo 7 = .ok (.iconst 1, 1) := by decide +kernel
theorem dX1_canGoTo_8 : decode cX1_canGoTo 8 = .ok (.ireturn, 1) := by decide +kernel
theorem dX1_canGoTo_9 : decode cX1_canGoTo 9 = .ok (.aload_n 0, 1) := by decide +kernel
theorem dX1_canGoTo_10 : decode cX1_canGoTo 10 = .ok (.getfield 9, 3) := by decide +kernel
theorem dX1_canGoTo_13 : decode cX1_canGoTo 13 = .ok (.aload_n 0, 1) := by decide +kernel
theorem dX1_canGoTo_14 : decode cX1_canGoTo 14 = .ok (.getfield 21, 3) := by decide +kernel
theorem dX1_canGoTo_17 : decode cX1_canGoTo 17 = .ok (.iconst 1, 1) := by decide +kernel
theorem dX1_canGoTo_18 : decode cX1_canGoTo 18 = .ok (.isub, 1) := by decide +kernel
theorem dX1_canGoTo_19 : decode cX1_canGoTo 19 = .ok (.iaload, 1) := by decide +kernel
theorem dX1_canGoTo_20 : decode cX1_canGoTo 20 = .ok (.istore_n 3, 1) := by decide +kernel
theorem dX1_canGoTo_21 : decode cX1_canGoTo 21 = .ok (.iload_n 1, 1) := by decide +kernel
theorem dX1_canGoTo_22 : decode cX1_canGoTo 22 = .ok (.iload_n 3, 1) := by decide +kernel
theorem dX1_canGoTo_23 : decode cX1_canGoTo 23 = .ok (.bipush 12, 2) := by decide +kernel
theorem dX1_canGoTo_25 : decode cX1_canGoTo 25 = .ok (.idiv, 1) := by decide +kernel
theorem dX1_canGoTo_26 : decode cX1_canGoTo 26 = .ok (.isub, 1) := by decide +kernel
theorem dX1_canGoTo_27 : decode cX1_canGoTo 27 = .ok (.invokestatic 25, 3) := by decide +kernel
theorem dX1_canGoTo_30 : decode cX1_canGoTo 30 = .ok (.istore 4, 2) := by decide +kernel
theorem dX1_canGoTo_32 : decode cX1_canGoTo 32 = .ok (.iload_n 2, 1) := by decide +kernel
theorem dX1_canGoTo_33 : decode cX1_canGoTo 33 = .ok (.iload_n 3, 1) := by decide +kernel
theorem dX1_canGoTo_34 : decode cX1_canGoTo 34 = .ok (.bipush 12, 2) := by decide +kernel
theorem dX1_canGoTo_36 : decode cX1_canGoTo 36 = .ok (.irem, 1) := by decide +kernel
theorem dX1_canGoTo_37 : decode cX1_canGoTo 37 = .ok (.isub, 1) := by decide +kernel
theorem dX1_canGoTo_38 : decode cX1_canGoTo 38 = .ok (.invokestatic 25, 3) := by decide +kernel
theorem dX1_canGoTo_41 : decode cX1_canGoTo 41 = .ok (.istore 5, 2) := by decide +kernel
theorem dX1_canGoTo_43 : decode cX1_canGoTo 43 = .ok (.iload 4, 2) := by decide +kernel
theorem dX1_canGoTo_45 : decode cX1_canGoTo 45 = .ok (.ifCond .ne 12, 3) := by decide +kernel
theorem dX1_canGoTo_48 : decode cX1_canGoTo 48 = .ok (.iload 5, 2) := by decide +kernel
theorem dX1_canGoTo_50 : decode cX1_canGoTo 50 = .ok (.ifCond .ne 7, 3) := by decide +kernel
theorem dX1_canGoTo_53 : decode cX1_canGoTo 53 = .ok (.iconst 1, 1) := by decide +kernel
theorem dX1_canGoTo_54 : decode cX1_canGoTo 54 = .ok (.goto 4, 3) := by decide +kernel
theorem dX1_canGoTo_57 : decode cX1_canGoTo 57 = .ok (.iconst 0, 1) := by decide +kernel
theorem dX1_canGoTo_58 : decode cX1_canGoTo 58 = .ok (.istore 6, 2) := by decide +kernel
theorem dX1_canGoTo_60 : decode cX1_canGoTo 60 = .ok (.iload 6, 2) := by decide +kernel
theorem dX1_canGoTo_62 : decode cX1_canGoTo 62 = .ok (.ifCond .ne 24, 3) := by decide +kernel
theorem dX1_canGoTo_65 : decode cX1_canGoTo 65 = .ok (.iload 4, 2) := by decide +kernel
theorem dX1_canGoTo_67 : decode cX1_canGoTo 67 = .ok (.ifCond .eq 15, 3) := by decide +kernel
theorem dX1_canGoTo_70 : decode cX1_canGoTo 70 = .ok (.iload 5, 2) := by decide +kernel
theorem dX1_canGoTo_72 : decode cX1_canGoTo 72 = .ok (.ifCond .eq 10, 3) := by decide +kernel
theorem dX1_canGoTo_75 : decode cX1_canGoTo 75 = .ok (.iload 4, 2) := by decide +kernel
theorem dX1_canGoTo_77 : decode cX1_canGoTo 77 = .ok (.iload 5, 2) := by decide +kernel
theorem dX1_canGoTo_79 : decode cX1_canGoTo 79 = .ok (.if_icmp .ne 7, 3) := by decide +kernel
theorem dX1_canGoTo_82 : decode cX1_canGoTo 82 = .ok (.iconst 1, 1) := by decide +kernel
theorem dX1_canGoTo_83 : decode cX1_canGoTo 83 = .ok (.goto 4, 3) := by decide +kernel
theorem dX1_canGoTo_86 : decode cX1_canGoTo 86 = .ok (.iconst 0, 1) := by decide +kernel
theorem dX1_canGoTo_87 : decode cX1_canGoTo 87 = .ok (.ireturn, 1) := by decide +kernel
theorem dX1_goTo_0 : decode cX1_goTo 0 = .ok (.aload_n 0, 1) := by decide +kernel
theorem dX1_goTo_1 : decode cX1_goTo 1 = .ok (.getfield 21, 3) := by decide +kernel
theorem dX1_goTo_4 : decode cX1_goTo 4 = .ok (.ifCond .ne 12, 3) := by decide +kernel
theorem dX1_goTo_7 : decode cX1_goTo 7 = .ok (.aload_n 0, 1) := by decide +kernel
theorem dX1_goTo_8 : decode cX1_goTo 8 = .ok (.iload_n 1, 1) := by decide +kernel
theorem dX1_goTo_9 : decode cX1_goTo 9 = .ok (.iload_n 2, 1) := by decide +kernel
theorem dX1_goTo_10 : decode cX1_goTo 10 = .ok (.invokevirtual 31, 3) := by decide +kernel
theorem dX1_goTo_13 : decode cX1_goTo 13 = .ok (.goto 20, 3) := by decide +kernel
theorem dX1_goTo_16 : decode cX1_goTo 16 = .ok (.aload_n 0, 1) := by decide +kernel
theorem dX1_goTo_17 : decode cX1_goTo 17 = .ok (.aload_n 0, 1) := by decide +kernel
theorem dX1_goTo_18 : decode cX1_goTo 18 = .ok (.getfield 9, 3) := by decide +kernel
theorem dX1_goTo_21 : decode cX1_goTo 21 = .ok (.aload_n 0, 1) := by decide +kernel
theorem dX1_goTo_22 : decode cX1_goTo 22 = .ok (.getfield 21, 3) := by decide +kernel
theorem dX1_goTo_25 : decode cX1_goTo 25 = .ok (.iconst 1, 1) := by decide +kernel
theorem dX1_goTo_26 : decode cX1_goTo 26 = .ok (.isub, 1) := by decide +kernel
theorem dX1_goTo_27 : decode cX1_goTo 27 = .ok (.iaload, 1) := by decide +kernel
theorem dX1_goTo_28 : decode cX1_goTo 28 = .ok (.iload_n 1, 1) := by decide +kernel
theorem dX1_goTo_29 : decode cX1_goTo 29 = .ok (.iload_n 2, 1) := by decide +kernel
theorem dX1_goTo_30 : decode cX1_goTo 30 = .ok (.invokevirtual 35, 3) := by decide +kernel
theorem dX1_goTo_33 : decode cX1_goTo 33 = .ok (.aload_n 0, 1) := by decide +kernel
theorem dX1_goTo_34 : decode cX1_goTo 34 = .ok (.getfield 15, 3) := by decide +kernel
theorem dX1_goTo_37 : decode cX1_goTo 37 = .ok (.aload_n 0, 1) := by decide +kernel
theorem dX1_goTo_38 : decode cX1_goTo 38 = .ok (.getfield 39, 3) := by decide +kernel
theorem dX1_goTo_41 : decode cX1_goTo 41 = .ok (.aload_n 0, 1) := by decide +kernel
theorem dX1_goTo_42 : decode cX1_goTo 42 = .ok (.getfield 21, 3) := by decide +kernel
theorem dX1_goTo_45 : decode cX1_goTo 45 = .ok (.iastore, 1) := by decide +kernel
theorem dX1_goTo_46 : decode cX1_goTo 46 = .ok (.aload_n 0, 1) := by decide +kernel
theorem dX1_goTo_47 : decode cX1_goTo 47 = .ok (.dup, 1) := by decide +kernel
theorem dX1_goTo_48 : decode cX1_goTo 48 = .ok (.getfield 39, 3) := by decide +kernel
theorem dX1_goTo_51 : decode cX1_goTo 51 = .ok (.iconst 1, 1) := by decide +kernel
theorem dX1_goTo_52 : decode cX1_goTo 52 = .ok (.iadd, 1) := by decide +kernel
theorem dX1_goTo_53 : decode cX1_goTo 53 = .ok (.putfield 39, 3) := by decide +kernel
theorem dX1_goTo_56 : decode cX1_goTo 56 = .ok (.return_, 1) := by decide +kernel
theorem dX1_goStraight_0 : decode cX1_goStraight 0 = .ok (.iload_n 1, 1) := by decide +kernel
theorem dX1_goStraight_1 : decode cX1_goStraight 1 = .ok (.bipush 12, 2) := by decide +kernel
theorem dX1_goStraight_3 : decode cX1_goStraight 3 = .ok (.idiv, 1) := by decide +kernel
theorem dX1_goStraight_4 : decode cX1_goStraight 4 = .ok (.istore 4, 2) := by decide +kernel
theorem dX1_goStraight_6 : decode cX1_goStraight 6 = .ok (.iload_n 1, 1) := by decide +kernel
theorem dX1_goStraight_7 : decode cX1_goStraight 7 = .ok (.bipush 12, 2) := by decide +kernel
theorem dX1_goStraight_9 : decode cX1_goStraight 9 = .ok (.irem, 1) := by decide +kernel
theorem dX1_goStraight_10 : decode cX1_goStraight 10 = .ok (.istore 5, 2) := by decide +kernel
theorem dX1_goStraight_12 : decode cX1_goStraight 12 = .ok (.iload_n 2, 1) := by decide +kernel
theorem dX1_goStraight_13 : decode cX1_goStraight 13 = .ok (.iload 4, 2) := by decide +kernel
theorem dX1_goStraight_15 : decode cX1_goStraight 15 = .ok (.isub, 1) := by decide +kernel
theorem dX1_goStraight_16 : decode cX1_goStraight 16 = .ok (.invokestatic 42, 3) := by decide +kernel
theorem dX1_goStraight_19 : decode cX1_goStraight 19 = .ok (.istore 6, 2) := by decide +kernel
theorem dX1_goStraight_21 : decode cX1_goStraight 21 = .ok (.iload_n 3, 1) := by decide +kernel
theorem dX1_goStraight_22 : decode cX1_goStraight 22 = .ok (.iload 5, 2) := by decide +kernel
theorem dX1_goStraight_24 : decode cX1_goStraight 24 = .ok (.isub, 1) := by decide +kernel
theorem dX1_goStraight_25 : decode cX1_goStraight 25 = .ok (.invokestatic 42, 3) := by decide +kernel
theorem dX1_goStraight_28 : decode cX1_goStraight 28 = .ok (.istore 7, 2) := by decide +kernel
theorem dX1_goStraight_30 : decode cX1_goStraight 30 = .ok (.iload_n 1, 1) := by decide +kernel
theorem dX1_goStraight_31 : decode cX1_goStraight 31 = .ok (.iload_n 2, 1) := by decide +kernel
theorem dX1_goStraight_32 : decode cX1_goStraight 32 = .ok (.iload_n 3, 1) := by decide +kernel
theorem dX1_goStraight_33 : decode cX1_goStraight 33 = .ok (.invokestatic 45, 3) := by decide +kernel
theorem dX1_goStraight_36 : decode cX1_goStraight 36 = .ok (.istore 8, 2) := by decide +kernel
theorem dX1_goStraight_38 : decode cX1_goStraight 38 = .ok (.iconst 1, 1) := by decide +kernel
theorem dX1_goStraight_39 : decode cX1_goStraight 39 = .ok (.istore 9, 2) := by decide +kernel
theorem dX1_goStraight_41 : decode cX1_goStraight 41 = .ok (.iload 9, 2) := by decide +kernel
theorem dX1_goStraight_43 : decode cX1_goStraight 43 = .ok (.iload 8, 2) := by decide +kernel
theorem dX1_goStraight_45 : decode cX1_goStraight 45 = .ok (.if_icmp .gt 29, 3) := by decide +kernel
theorem dX1_goStraight_48 : decode cX1_goStraight 48 = .ok (.aload_n 0, 1) := by decide +kernel
theorem dX1_goStraight_49 : decode cX1_goStraight 49 = .ok (.iload 4, 2) := by decide +kernel
theorem dX1_goStraight_51 : decode cX1_goStraight 51 = .ok (.iload 9, 2) := by decide +kernel
theorem dX1_goStraight_53 : decode cX1_goStraight 53 = .ok (.iload 6, 2) := by decide +kernel
theorem dX1_goStraight_55 : decode cX1_goStraight 55 = .ok (.imul, 1) := by decide +kernel
theorem dX1_goStraight_56 : decode cX1_goStraight 56 = .ok (.iadd, 1) := by decide +kernel
theorem dX1_goStraight_57 : decode cX1_goStraight 57 = .ok (.iload 5, 2) := by decide +kernel
theorem dX1_goStraight_59 : decode cX1_goStraight 59 = .ok (.iload 9, 2) := by decide +kernel
theorem dX1_goStraight_61 : decode cX1_goStraight 61 = .ok (.iload 7, 2) := by decide +kernel
theorem dX1_goStraight_63 : decode cX1_goStraight 63 = .ok (.imul, 1) := by decide +kernel
theorem dX1_goStraight_64 : decode cX1_goStraight 64 = .ok (.iadd, 1) := by decide +kernel
theorem dX1_goStraight_65 : decode cX1_goStraight 65 = .ok (.invokevirtual 31, 3) := by decide +kernel
theorem dX1_goStraight_68 : decode cX1_goStraight 68 = .ok (.iinc 9 1, 3) := by decide +kernel
theorem dX1_goStraight_71 : decode cX1_goStraight 71 = .ok (.goto (-30), 3) := by decide +kernel
theorem dX1_goStraight_74 : decode cX1_goStraight 74 = .ok (.return_, 1) := by decide +kernel
theorem dX1_addSquare_0 : decode cX1_addSquare 0 = .ok (.aload_n 0, 1) := by decide +kernel
theorem dX1_addSquare_1 : decode cX1_addSquare 1 = .ok (.getfield 9, 3) := by decide +kernel
theorem dX1_addSquare_4 : decode cX1_addSquare 4 = .ok (.aload_n 0, 1) := by decide +kernel
theorem dX1_addSquare_5 : decode cX1_addSquare 5 = .ok (.getfield 21, 3) := by decide +kernel
theorem dX1_addSquare_8 : decode cX1_addSquare 8 = .ok (.iload_n 1, 1) := by decide +kernel
theorem dX1_addSquare_9 : decode cX1_addSquare 9 = .ok (.iload_n 2, 1) := by decide +kernel
theorem dX1_addSquare_10 : decode cX1_addSquare 10 = .ok (.invokestatic 49, 3) := by decide +kernel
theorem dX1_addSquare_13 : decode cX1_addSquare 13 = .ok (.iastore, 1) := by decide +kernel
theorem dX1_addSquare_14 : decode cX1_addSquare 14 = .ok (.aload_n 0, 1) := by decide +kernel
theorem dX1_addSquare_15 : decode cX1_addSquare 15 = .ok (.dup, 1) := by decide +kernel
theorem dX1_addSquare_16 : decode cX1_addSquare 16 = .ok (.getfield 21, 3) := by decide +kernel
theorem dX1_addSquare_19 : decode cX1_addSquare 19 = .ok (.iconst 1, 1) := by decide +kernel
theorem dX1_addSquare_20 : decode cX1_addSquare 20 = .ok (.iadd, 1) := by decide +kernel
theorem dX1_addSquare_21 : decode cX1_addSquare 21 = .ok (.putfield 21, 3) := by decide +kernel
theorem dX1_addSquare_24 : decode cX1_addSquare 24 = .ok (.aload_n 0, 1) := by decide +kernel
theorem dX1_addSquare_25 : decode cX1_addSquare 25 = .ok (.getfield 18, 3) := by decide +kernel
theorem dX1_addSquare_28 : decode cX1_addSquare 28 = .ok (.iload_n 1, 1) := by decide +kernel
theorem dX1_addSquare_29 : decode cX1_addSquare 29 = .ok (.dup2, 1) := by decide +kernel
theorem dX1_addSquare_30 : decode cX1_addSquare 30 = .ok (.iaload, 1) := by decide +kernel
theorem dX1_addSquare_31 : decode cX1_addSquare 31 = .ok (.iconst 1, 1) := by decide +kernel
theorem dX1_addSquare_32 : decode cX1_addSquare 32 = .ok (.iload_n 2, 1) := by decide +kernel
theorem dX1_addSquare_33 : decode cX1_addSquare 33 = .ok (.ishl, 1) := by decide +kernel
theorem dX1_addSquare_34 : decode cX1_addSquare 34 = .ok (.ior, 1) := by decide +kernel
theorem dX1_addSquare_35 : decode cX1_addSquare 35 = .ok (.iastore, 1) := by decide +kernel
theorem dX1_addSquare_36 : decode cX1_addSquare 36 = .ok (.return_, 1) := by decide +kernel
theorem dX1_goBack_0 : decode cX1_goBack 0 = .ok (.aload_n 0, 1) := by decide +kernel
theorem dX1_goBack_1 : decode cX1_goBack 1 = .ok (.dup, 1) := by decide +kernel
theorem dX1_goBack_2 : decode cX1_goBack 2 = .ok (.getfield 39, 3) := by decide +kernel
theorem dX1_goBack_5 : decode cX1_goBack 5 = .ok (.iconst 1, 1) := by decide +kernel
theorem dX1_goBack_6 : decode cX1_goBack 6 = .ok (.isub, 1) := by decide +kernel
theorem dX1_goBack_7 : decode cX1_goBack 7 = .ok (.putfield 39, 3) := by decide +kernel
theorem dX1_goBack_10 : decode cX1_goBack 10 = .ok (.aload_n 0, 1) := by decide +kernel
theorem dX1_goBack_11 : decode cX1_goBack 11 = .ok (.aload_n 0, 1) := by decide +kernel
theorem dX1_goBack_12 : decode cX1_goBack 12 = .ok (.getfield 39, 3) := by decide +kernel
theorem dX1_goBack_15 : decode cX1_goBack 15 = .ok (.ifCond .ne 7, 3) := by decide +kernel
theorem dX1_goBack_18 : decode cX1_goBack 18 = .ok (.iconst 0, 1) := by decide +kernel
theorem dX1_goBack_19 : decode cX1_goBack 19 = .ok (.goto 14, 3) := by decide +kernel
theorem dX1_goBack_22 : decode cX1_goBack 22 = .ok (.aload_n 0, 1) := by decide +kernel
theorem dX1_goBack_23 : decode cX1_goBack 23 = .ok (.getfield 15, 3) := by decide +kernel
theorem dX1_goBack_26 : decode cX1_goBack 26 = .ok (.aload_n 0, 1) := by decide +kernel
theorem dX1_goBack_27 : decode cX1_goBack 27 = .ok (.getfield 39, 3) := by decide +kernel
theorem dX1_goBack_30 : decode cX1_goBack 30 = .ok (.iconst 1, 1) := by decide +kernel
theorem dX1_goBack_31 : decode cX1_goBack 31 = .ok (.isub, 1) := by decide +kernel
theorem dX1_goBack_32 : decode cX1_goBack 32 = .ok (.iaload, 1) := by decide +kernel
theorem dX1_goBack_33 : decode cX1_goBack 33 = .ok (.putfield 21, 3) := by decide +kernel
theorem dX1_goBack_36 : decode cX1_goBack 36 = .ok (.aload_n 0, 1) := by decide +kernel
theorem dX1_goBack_37 : decode cX1_goBack 37 = .ok (.getfield 18, 3) := by decide +kernel
theorem dX1_goBack_40 : decode cX1_goBack 40 = .ok (.iconst 0, 1) := by decide +kernel
theorem dX1_goBack_41 : decode cX1_goBack 41 = .ok (.invokestatic 53, 3) := by decide +kernel
theorem dX1_goBack_44 : decode cX1_goBack 44 = .ok (.iconst 0, 1) := by decide +kernel
theorem dX1_goBack_45 : decode cX1_goBack 45 = .ok (.istore_n 1, 1) := by decide +kernel
theorem dX1_goBack_46 : decode cX1_goBack 46 = .ok (.iload_n 1, 1) := by decide +kernel
theorem dX1_goBack_47 : decode cX1_goBack 47 = .ok (.aload_n 0, 1) := by decide +kernel
theorem dX1_goBack_48 : decode cX1_goBack 48 = .ok (.getfield 21, 3) := by decide +kernel
theorem dX1_goBack_51 : decode cX1_goBack 51 = .ok (.if_icmp .ge 37, 3) := by decide +kernel
theorem dX1_goBack_54 : decode cX1_goBack 54 = .ok (.aload_n 0, 1) := by decide +kernel
theorem dX1_goBack_55 : decode cX1_goBack 55 = .ok (.getfield 18, 3) := by decide +kernel
theorem dX1_goBack_58 : decode cX1_goBack 58 = .ok (.aload_n 0, 1) := by decide +kernel
theorem dX1_goBack_59 : decode cX1_goBack 59 = .ok (.getfield 9, 3) := by decide +kernel
theorem dX1_goBack_62 : decode cX1_goBack 62 = .ok (.iload_n 1, 1) := by decide +kernel
theorem dX1_goBack_63 : decode cX1_goBack 63 = .ok (.iaload, 1) := by decide +kernel
theorem dX1_goBack_64 : decode cX1_goBack 64 = .ok (.bipush 12, 2) := by decide +kernel
theorem dX1_goBack_66 : decode cX1_goBack 66 = .ok (.idiv, 1) := by decide +kernel
theorem dX1_goBack_67 : decode cX1_goBack 67 = .ok (.dup2, 1) := by decide +kernel
theorem dX1_goBack_68 : decode cX1_goBack 68 = .ok (.iaload, 1) := by decide +kernel
theorem dX1_goBack_69 : decode cX1_goBack 69 = .ok (.iconst 1, 1) := by decide +kernel
theorem dX1_goBack_70 : decode cX1_goBack 70 = .ok (.aload_n 0, 1) := by decide +kernel
theorem dX1_goBack_71 : decode cX1_goBack 71 = .ok (.getfield 9, 3) := by decide +kernel
theorem dX1_goBack_74 : decode cX1_goBack 74 = .ok (.iload_n 1, 1) := by decide +kernel
theorem dX1_goBack_75 : decode cX1_goBack 75 = .ok (.iaload, 1) := by decide +kernel
theorem dX1_goBack_76 : decode cX1_goBack 76 = .ok (.bipush 12, 2) := by decide +kernel
theorem dX1_goBack_78 : decode cX1_goBack 78 = .ok (.irem, 1) := by decide +kernel
theorem dX1_goBack_79 : decode cX1_goBack 79 = .ok (.ishl, 1) := by decide +kernel
theorem dX1_goBack_80 : decode cX1_goBack 80 = .ok (.ior, 1) := by decide +kernel
theorem dX1_goBack_81 : decode cX1_goBack 81 = .ok (.iastore, 1) := by decide +kernel
theorem dX1_goBack_82 : decode cX1_goBack 82 = .ok (.iinc 1 1, 3) := by decide +kernel
theorem dX1_goBack_85 : decode cX1_goBack 85 = .ok (.goto (-39), 3) := by decide +kernel
theorem dX1_goBack_88 : decode cX1_goBack 88 = .ok (.return_, 1) := by decide +kernel
theorem dX1_covers_0 : decode cX1_covers 0 = .ok (.aload_n 0, 1) := by decide +kernel
theorem dX1_covers_1 : decode cX1_covers 1 = .ok (.getfield 18, 3) := by decide +kernel
theorem dX1_covers_4 : decode cX1_covers 4 = .ok (.iload_n 1, 1) := by decide +kernel
theorem dX1_covers_5 : decode cX1_covers 5 = .ok (.iaload, 1) := by decide +kernel
theorem dX1_covers_6 : decode cX1_covers 6 = .ok (.iload_n 2, 1) := by decide +kernel
theorem dX1_covers_7 : decode cX1_covers 7 = .ok (.ishr, 1) := by decide +kernel
theorem dX1_covers_8 : decode cX1_covers 8 = .ok (.iconst 1, 1) := by decide +kernel
theorem dX1_covers_9 : decode cX1_covers 9 = .ok (.iand, 1) := by decide +kernel
theorem dX1_covers_10 : decode cX1_covers 10 = .ok (.iconst 1, 1) := by decide +kernel
theorem dX1_covers_11 : decode cX1_covers 11 = .ok (.if_icmp .ne 7, 3) := by decide +kernel
theorem dX1_covers_14 : decode cX1_covers 14 = .ok (.iconst 1, 1) := by decide +kernel
theorem dX1_covers_15 : decode cX1_covers 15 = .ok (.goto 4, 3) := by decide +kernel
theorem dX1_covers_18 : decode cX1_covers 18 = .ok (.iconst 0, 1) := by decide +kernel
theorem dX1_covers_19 : decode cX1_covers 19 = .ok (.ireturn, 1) := by decide +kernel
theorem dX1_comesTo_0 : decode cX1_comesTo 0 = .ok (.iconst 0, 1) := by decide +kernel
theorem dX1_comesTo_1 : decode cX1_comesTo 1 = .ok (.istore_n 2, 1) := by decide +kernel
theorem dX1_comesTo_2 : decode cX1_comesTo 2 = .ok (.iload_n 2, 1) := by decide +kernel
theorem dX1_comesTo_3 : decode cX1_comesTo 3 = .ok (.aload_n 0, 1) := by decide +kernel
theorem dX1_comesTo_4 : decode cX1_comesTo 4 = .ok (.getfield 21, 3) := by decide +kernel
theorem dX1_comesTo_7 : decode cX1_comesTo 7 = .ok (.if_icmp .ge 21, 3) := by decide +kernel
theorem dX1_comesTo_10 : decode cX1_comesTo 10 = .ok (.aload_n 0, 1) := by decide +kernel
theorem dX1_comesTo_11 : decode cX1_comesTo 11 = .ok (.getfield 9, 3) := by decide +kernel
theorem dX1_comesTo_14 : decode cX1_comesTo 14 = .ok (.iload_n 2, 1) := by decide +kernel
theorem dX1_comesTo_15 : decode cX1_comesTo 15 = .ok (.iaload, 1) := by decide +kernel
theorem dX1_comesTo_16 : decode cX1_comesTo 16 = .ok (.iload_n 1, 1) := by decide +kernel
theorem dX1_comesTo_17 : decode cX1_comesTo 17 = .ok (.if_icmp .ne 5, 3) := by decide +kernel
theorem dX1_comesTo_20 : decode cX1_comesTo 20 = .ok (.iconst 1, 1) := by decide +kernel
theorem dX1_comesTo_21 : decode cX1_comesTo 21 = .ok (.ireturn, 1) := by decide +kernel
theorem dX1_comesTo_22 : decode cX1_comesTo 22 = .ok (.iinc 2 1, 3) := by decide +kernel
theorem dX1_comesTo_25 : decode cX1_comesTo 25 = .ok (.goto (-23), 3) := by decide +kernel
theorem dX1_comesTo_28 : decode cX1_comesTo 28 = .ok (.iconst 0, 1) := by decide +kernel
theorem dX1_comesTo_29 : decode cX1_comesTo 29 = .ok (.ireturn, 1) := by decide +kernel
theorem dX1_countSquares_0 : decode cX1_countSquares 0 = .ok (.iconst 0, 1) := by decide +kernel
theorem dX1_countSquares_1 : decode cX1_countSquares 1 = .ok (.istore_n 1, 1) := by decide +kernel
theorem dX1_countSquares_2 : decode cX1_countSquares 2 = .ok (.iconst 0, 1) := by decide +kernel
theorem dX1_countSquares_3 : decode cX1_countSquares 3 = .ok (.istore_n 2, 1) := by decide +kernel
theorem dX1_countSquares_4 : decode cX1_countSquares 4 = .ok (.iload_n 2, 1) := by decide +kernel
theorem dX1_countSquares_5 : decode cX1_countSquares 5 = .ok (.bipush 12, 2) := by decide +kernel
theorem dX1_countSquares_7 : decode cX1_countSquares 7 = .ok (.if_icmp .ge 21, 3) := by decide +kernel
theorem dX1_countSquares_10 : decode cX1_countSquares 10 = .ok (.iload_n 1, 1) := by decide +kernel
theorem dX1_countSquares_11 : decode cX1_countSquares 11 = .ok (.aload_n 0, 1) := by decide +kernel
theorem dX1_countSquares_12 : decode cX1_countSquares 12 = .ok (.getfield 18, 3) := by decide +kernel
theorem dX1_countSquares_15 : decode cX1_countSquares 15 = .ok (.iload_n 2, 1) := by decide +kernel
theorem dX1_countSquares_16 : decode cX1_countSquares 16 = .ok (.iaload, 1) := by decide +kernel
theorem dX1_countSquares_17 : decode cX1_countSquares 17 = .ok (.invokestatic 59, 3) := by decide +kernel
theorem dX1_countSquares_20 : decode cX1_countSquares 20 = .ok (.iadd, 1) := by decide +kernel
theorem dX1_countSquares_21 : decode cX1_countSquares 21 = .ok (.istore_n 1, 1) := by decide +kernel
theorem dX1_countSquares_22 : decode cX1_countSquares 22 = .ok (.iinc 2 1, 3) := by decide +kernel
theorem dX1_countSquares_25 : decode cX1_countSquares 25 = .ok (.goto (-21), 3) := by decide +kernel
theorem dX1_countSquares_28 : decode cX1_countSquares 28 = .ok (.iload_n 1, 1) := by decide +kernel
theorem dX1_countSquares_29 : decode cX1_countSquares 29 = .ok (.ireturn, 1) := by decide +kernel
theorem dX1_countRuns_0 : decode cX1_countRuns 0 = .ok (.iconst 0, 1) := by decide +kernel
theorem dX1_countRuns_1 : decode cX1_countRuns 1 = .ok (.istore_n 1, 1) := by decide +kernel
theorem dX1_countRuns_2 : decode cX1_countRuns 2 = .ok (.iconst 0, 1) := by decide +kernel
theorem dX1_countRuns_3 : decode cX1_countRuns 3 = .ok (.istore_n 2, 1) := by decide +kernel
theorem dX1_countRuns_4 : decode cX1_countRuns 4 = .ok (.iload_n 2, 1) := by decide +kernel
theorem dX1_countRuns_5 : decode cX1_countRuns 5 = .ok (.bipush 12, 2) := by decide +kernel
theorem dX1_countRuns_7 : decode cX1_countRuns 7 = .ok (.if_icmp .ge 32, 3) := by decide +kernel
theorem dX1_countRuns_10 : decode cX1_countRuns 10 = .ok (.iload_n 1, 1) := by decide +kernel
theorem dX1_countRuns_11 : decode cX1_countRuns 11 = .ok (.aload_n 0, 1) := by decide +kernel
theorem dX1_countRuns_12 : decode cX1_countRuns 12 = .ok (.getfield 18, 3) := by decide +kernel
theorem dX1_countRuns_15 : decode cX1_countRuns 15 = .ok (.iload_n 2, 1) := by decide +kernel
theorem dX1_countRuns_16 : decode cX1_countRuns 16 = .ok (.iaload, 1) := by decide +kernel
theorem dX1_countRuns_17 : decode cX1_countRuns 17 = .ok (.aload_n 0, 1) := by decide +kernel
theorem dX1_countRuns_18 : decode cX1_countRuns 18 = .ok (.getfield 18, 3) := by decide +kernel
theorem dX1_countRuns_21 : decode cX1_countRuns 21 = .ok (.iload_n 2, 1) := by decide +kernel
theorem dX1_countRuns_22 : decode cX1_countRuns 22 = .ok (.iaload, 1) := by decide +kernel
theorem dX1_countRuns_23 : decode cX1_countRuns 23 = .ok (.iconst 1, 1) := by decide +kernel
theorem dX1_countRuns_24 : decode cX1_countRuns 24 = .ok (.ishl, 1) := by decide +kernel
theorem dX1_countRuns_25 : decode cX1_countRuns 25 = .ok (.iconst (-1), 1) := by decide +kernel
theorem dX1_countRuns_26 : decode cX1_countRuns 26 = .ok (.ixor, 1) := by decide +kernel
theorem dX1_countRuns_27 : decode cX1_countRuns 27 = .ok (.iand, 1) := by decide +kernel
theorem dX1_countRuns_28 : decode cX1_countRuns 28 = .ok (.invokestatic 59, 3) := by decide +kernel
theorem dX1_countRuns_31 : decode cX1_countRuns 31 = .ok (.iadd, 1) := by decide +kernel
theorem dX1_countRuns_32 : decode cX1_countRuns 32 = .ok (.istore_n 1, 1) := by decide +kernel
theorem dX1_countRuns_33 : decode cX1_countRuns 33 = .ok (.iinc 2 1, 3) := by decide +kernel
theorem dX1_countRuns_36 : decode cX1_countRuns 36 = .ok (.goto (-32), 3) := by decide +kernel
theorem dX1_countRuns_39 : decode cX1_countRuns 39 = .ok (.iload_n 1, 1) := by decide +kernel
theorem dX1_countRuns_40 : decode cX1_countRuns 40 = .ok (.ireturn, 1) := by decide +kernel
theorem dX1_beginsRun_0 : decode cX1_beginsRun 0 = .ok (.aload_n 0, 1) := by decide +kernel
theorem dX1_beginsRun_1 : decode cX1_beginsRun 1 = .ok (.iload_n 1, 1) := by decide +kernel
theorem dX1_beginsRun_2 : decode cX1_beginsRun 2 = .ok (.iload_n 2, 1) := by decide +kernel
theorem dX1_beginsRun_3 : decode cX1_beginsRun 3 = .ok (.invokevirtual 64, 3) := by decide +kernel
theorem dX1_beginsRun_6 : decode cX1_beginsRun 6 = .ok (.ifCond .eq 22, 3) := by decide +kernel
theorem dX1_beginsRun_9 : decode cX1_beginsRun 9 = .ok (.iload_n 2, 1) := by decide +kernel
theorem dX1_beginsRun_10 : decode cX1_beginsRun 10 = .ok (.ifCond .eq 14, 3) := by decide +kernel
theorem dX1_beginsRun_13 : decode cX1_beginsRun 13 = .ok (.aload_n 0, 1) := by decide +kernel
theorem dX1_beginsRun_14 : decode cX1_beginsRun 14 = .ok (.iload_n 1, 1) := by decide +kernel
theorem dX1_beginsRun_15 : decode cX1_beginsRun 15 = .ok (.iload_n 2, 1) := by decide +kernel
theorem dX1_beginsRun_16 : decode cX1_beginsRun 16 = .ok (.iconst 1, 1) := by decide +kernel
theorem dX1_beginsRun_17 : decode cX1_beginsRun 17 = .ok (.isub, 1) := by decide +kernel
theorem dX1_beginsRun_18 : decode cX1_beginsRun 18 = .ok (.invokevirtual 64, 3) := by decide +kernel
theorem dX1_beginsRun_21 : decode cX1_beginsRun 21 = .ok (.ifCond .ne 7, 3) := by decide +kernel
theorem dX1_beginsRun_24 : decode cX1_beginsRun 24 = .ok (.iconst 1, 1) := by decide +kernel
theorem dX1_beginsRun_25 : decode cX1_beginsRun 25 = .ok (.goto 4, 3) := by decide +kernel
theorem dX1_beginsRun_28 : decode cX1_beginsRun 28 = .ok (.iconst 0, 1) := by decide +kernel
theorem dX1_beginsRun_29 : decode cX1_beginsRun 29 = .ok (.ireturn, 1) := by decide +kernel
theorem dX1_endOfRun_0 : decode cX1_endOfRun 0 = .ok (.iload_n 2, 1) := by decide +kernel
theorem dX1_endOfRun_1 : decode cX1_endOfRun 1 = .ok (.istore_n 3, 1) := by decide +kernel
theorem dX1_endOfRun_2 : decode cX1_endOfRun 2 = .ok (.iload_n 3, 1) := by decide +kernel
theorem dX1_endOfRun_3 : decode cX1_endOfRun 3 = .ok (.iconst 1, 1) := by decide +kernel
theorem dX1_endOfRun_4 : decode cX1_endOfRun 4 = .ok (.iadd, 1) := by decide +kernel
theorem dX1_endOfRun_5 : decode cX1_endOfRun 5 = .ok (.bipush 12, 2) := by decide +kernel
theorem dX1_endOfRun_7 : decode cX1_endOfRun 7 = .ok (.if_icmp .ge 20, 3) := by decide +kernel
theorem dX1_endOfRun_10 : decode cX1_endOfRun 10 = .ok (.aload_n 0, 1) := by decide +kernel
theorem dX1_endOfRun_11 : decode cX1_endOfRun 11 = .ok (.iload_n 1, 1) := by decide +kernel
theorem dX1_endOfRun_12 : decode cX1_endOfRun 12 = .ok (.iload_n 3, 1) := by decide +kernel
theorem dX1_endOfRun_13 : decode cX1_endOfRun 13 = .ok (.iconst 1, 1) := by decide +kernel
theorem dX1_endOfRun_14 : decode cX1_endOfRun 14 = .ok (.iadd, 1) := by decide +kernel
theorem dX1_endOfRun_15 : decode cX1_endOfRun 15 = .ok (.invokevirtual 64, 3) := by decide +kernel
theorem dX1_endOfRun_18 : decode cX1_endOfRun 18 = .ok (.ifCond .eq 9, 3) := by decide +kernel
theorem dX1_endOfRun_21 : decode cX1_endOfRun 21 = .ok (.iinc 3 1, 3) := by decide +kernel
theorem dX1_endOfRun_24 : decode cX1_endOfRun 24 = .ok (.goto (-22), 3) := by decide +kernel
theorem dX1_endOfRun_27 : decode cX1_endOfRun 27 = .ok (.iload_n 3, 1) := by decide +kernel
theorem dX1_endOfRun_28 : decode cX1_endOfRun 28 = .ok (.ireturn, 1) := by decide +kernel
theorem dX1_nearestTo_0 : decode cX1_nearestTo 0 = .ok (.iconst (-1), 1) := by decide +kernel
theorem dX1_nearestTo_1 : decode cX1_nearestTo 1 = .ok (.istore_n 3, 1) := by decide +kernel
theorem dX1_nearestTo_2 : decode cX1_nearestTo 2 = .ok (.bipush 12, 2) := by decide +kernel
theorem dX1_nearestTo_4 : decode cX1_nearestTo 4 = .ok (.istore 4, 2) := by decide +kernel
theorem dX1_nearestTo_6 : decode cX1_nearestTo 6 = .ok (.iconst 0, 1) := by decide +kernel
theorem dX1_nearestTo_7 : decode cX1_nearestTo 7 = .ok (.istore 5, 2) := by decide +kernel
theorem dX1_nearestTo_9 : decode cX1_nearestTo 9 = .ok (.iload 5, 2) := by decide +kernel
theorem dX1_nearestTo_11 : decode cX1_nearestTo 11 = .ok (.sipush 144, 3) := by decide +kernel
theorem dX1_nearestTo_14 : decode cX1_nearestTo 14 = .ok (.if_icmp .ge 50, 3) := by decide +kernel
theorem dX1_nearestTo_17 : decode cX1_nearestTo 17 = .ok (.aload_n 0, 1) := by decide +kernel
theorem dX1_nearestTo_18 : decode cX1_nearestTo 18 = .ok (.iload 5, 2) := by decide +kernel
theorem dX1_nearestTo_20 : decode cX1_nearestTo 20 = .ok (.bipush 12, 2) := by decide +kernel
theorem dX1_nearestTo_22 : decode cX1_nearestTo 22 = .ok (.idiv, 1) := by decide +kernel
theorem dX1_nearestTo_23 : decode cX1_nearestTo 23 = .ok (.iload 5, 2) := by decide +kernel
theorem dX1_nearestTo_25 : decode cX1_nearestTo 25 = .ok (.bipush 12, 2) := by decide +kernel
theorem dX1_nearestTo_27 : decode cX1_nearestTo 27 = .ok (.irem, 1) := by decide +kernel
theorem dX1_nearestTo_28 : decode cX1_nearestTo 28 = .ok (.invokevirtual 64, 3) := by decide +kernel
theorem dX1_nearestTo_31 : decode cX1_nearestTo 31 = .ok (.ifCond .eq 27, 3) := by decide +kernel
theorem dX1_nearestTo_34 : decode cX1_nearestTo 34 = .ok (.iload 5, 2) := by decide +kernel
theorem dX1_nearestTo_36 : decode cX1_nearestTo 36 = .ok (.iload_n 1, 1) := by decide +kernel
theorem dX1_nearestTo_37 : decode cX1_nearestTo 37 = .ok (.iload_n 2, 1) := by decide +kernel
theorem dX1_nearestTo_38 : decode cX1_nearestTo 38 = .ok (.invokestatic 45, 3) := by decide +kernel
theorem dX1_nearestTo_41 : decode cX1_nearestTo 41 = .ok (.iload 4, 2) := by decide +kernel
theorem dX1_nearestTo_43 : decode cX1_nearestTo 43 = .ok (.if_icmp .ge 15, 3) := by decide +kernel
theorem dX1_nearestTo_46 : decode cX1_nearestTo 46 = .ok (.iload 5, 2) := by decide +kernel
theorem dX1_nearestTo_48 : decode cX1_nearestTo 48 = .ok (.istore_n 3, 1) := by decide +kernel
theorem dX1_nearestTo_49 : decode cX1_nearestTo 49 = .ok (.iload 5, 2) := by decide +kernel
theorem dX1_nearestTo_51 : decode cX1_nearestTo 51 = .ok (.iload_n 1, 1) := by decide +kernel
theorem dX1_nearestTo_52 : decode cX1_nearestTo 52 = .ok (.iload_n 2, 1) := by decide +kernel
theorem dX1_nearestTo_53 : decode cX1_nearestTo 53 = .ok (.invokestatic 45, 3) := by decide +kernel
theorem dX1_nearestTo_56 : decode cX1_nearestTo 56 = .ok (.istore 4, 2) := by decide +kernel
theorem dX1_nearestTo_58 : decode cX1_nearestTo 58 = .ok (.iinc 5 1, 3) := by decide +kernel
theorem dX1_nearestTo_61 : decode cX1_nearestTo 61 = .ok (.goto (-52), 3) := by decide +kernel
theorem dX1_nearestTo_64 : decode cX1_nearestTo 64 = .ok (.iload_n 3, 1) := by decide +kernel
theorem dX1_nearestTo_65 : decode cX1_nearestTo 65 = .ok (.ireturn, 1) := by decide +kernel
theorem dX2_init_0 : decode cX2_init 0 = .ok (.aload_n 0, 1) := by decide +kernel
theorem dX2_init_1 : decode cX2_init 1 = .ok (.invokespecial 3, 3) := by decide +kernel
theorem dX2_init_4 : decode cX2_init 4 = .ok (.aload_n 0, 1) := by decide +kernel
theorem dX2_init_5 : decode cX2_init 5 = .ok (.sipush 144, 3) := by decide +kernel
theorem dX2_init_8 : decode cX2_init 8 = .ok (.newarray .int, 2) := by decide +kernel
theorem dX2_init_10 : decode cX2_init 10 = .ok (.putfield 9, 3) := by decide +kernel
theorem dX2_init_13 : decode cX2_init 13 = .ok (.aload_n 0, 1) := by decide +kernel
theorem dX2_init_14 : decode cX2_init 14 = .ok (.sipush 144, 3) := by decide +kernel
theorem dX2_init_17 : decode cX2_init 17 = .ok (.newarray .int, 2) := by decide +kernel
theorem dX2_init_19 : decode cX2_init 19 = .ok (.putfield 15, 3) := by decide +kernel
theorem dX2_init_22 : decode cX2_init 22 = .ok (.aload_n 0, 1) := by decide +kernel
theorem dX2_init_23 : decode cX2_init 23 = .ok (.sipush 144, 3) := by decide +kernel
theorem dX2_init_26 : decode cX2_init 26 = .ok (.newarray .int, 2) := by decide +kernel
theorem dX2_init_28 : decode cX2_init 28 = .ok (.putfield 18, 3) := by decide +kernel
theorem dX2_init_31 : decode cX2_init 31 = .ok (.return_, 1) := by decide +kernel
theorem dX2_stepsOf_0 : decode cX2_stepsOf 0 = .ok (.aload_n 0, 1) := by decide +kernel
theorem dX2_stepsOf_1 : decode cX2_stepsOf 1 = .ok (.getfield 15, 3) := by decide +kernel
theorem dX2_stepsOf_4 : decode cX2_stepsOf 4 = .ok (.iload_n 1, 1) := by decide +kernel
theorem dX2_stepsOf_5 : decode cX2_stepsOf 5 = .ok (.iaload, 1) := by decide +kernel
theorem dX2_stepsOf_6 : decode cX2_stepsOf 6 = .ok (.sipush 144, 3) := by decide +kernel
theorem dX2_stepsOf_9 : decode cX2_stepsOf 9 = .ok (.if_icmp .lt 7, 3) := by decide +kernel
theorem dX2_stepsOf_12 : decode cX2_stepsOf 12 = .ok (.iconst (-1), 1) := by decide +kernel
theorem dX2_stepsOf_13 : decode cX2_stepsOf 13 = .ok (.goto 9, 3) := by decide +kernel
theorem dX2_stepsOf_16 : decode cX2_stepsOf 16 = .ok (.aload_n 0, 1) := by decide +kernel
theorem dX2_stepsOf_17 : decode cX2_stepsOf 17 = .ok (.getfield 15, 3) := by decide +kernel
theorem dX2_stepsOf_20 : decode cX2_stepsOf 20 = .ok (.iload_n 1, 1) := by decide +kernel
theorem dX2_stepsOf_21 : decode cX2_stepsOf 21 = .ok (.iaload, 1) := by decide +kernel
theorem dX2_stepsOf_22 : decode cX2_stepsOf 22 = .ok (.ireturn, 1) := by decide +kernel
theorem dX2_spread_0 : decode cX2_spread 0 = .ok (.aload_n 0, 1) := by decide +kernel
theorem dX2_spread_1 : decode cX2_spread 1 = .ok (.aload_n 1, 1) := by decide +kernel
theorem dX2_spread_2 : decode cX2_spread 2 = .ok (.iload_n 2, 1) := by decide +kernel
theorem dX2_spread_3 : decode cX2_spread 3 = .ok (.invokevirtual 21, 3) := by decide +kernel
theorem dX2_spread_6 : decode cX2_spread 6 = .ok (.aload_n 0, 1) := by decide +kernel
theorem dX2_spread_7 : decode cX2_spread 7 = .ok (.getfield 15, 3) := by decide +kernel
theorem dX2_spread_10 : decode cX2_spread 10 = .ok (.sipush 144, 3) := by decide +kernel
theorem dX2_spread_13 : decode cX2_spread 13 = .ok (.invokestatic 25, 3) := by decide +kernel
theorem dX2_spread_16 : decode cX2_spread 16 = .ok (.aload_n 0, 1) := by decide +kernel
theorem dX2_spread_17 : decode cX2_spread 17 = .ok (.getfield 15, 3) := by decide +kernel
theorem dX2_spread_20 : decode cX2_spread 20 = .ok (.iload_n 3, 1) := by decide +kernel
theorem dX2_spread_21 : decode cX2_spread 21 = .ok (.iconst 0, 1) := by decide +kernel
theorem dX2_spread_22 : decode cX2_spread 22 = .ok (.iastore, 1) := by decide +kernel
theorem dX2_spread_23 : decode cX2_spread 23 = .ok (.aload_n 0, 1) := by decide +kernel
theorem dX2_spread_24 : decode cX2_spread 24 = .ok (.getfield 18, 3) := by decide +kernel
theorem dX2_spread_27 : decode cX2_spread 27 = .ok (.iconst 0, 1) := by decide +kernel
theorem dX2_spread_28 : decode cX2_spread 28 = .ok (.iload_n 3, 1) := by decide +kernel
theorem dX2_spread_29 : decode cX2_spread 29 = .ok (.iastore, 1) := by decide +kernel
theorem dX2_spread_30 : decode cX2_spread 30 = .ok (.iconst 1, 1) := by decide +kernel
theorem dX2_spread_31 : decode cX2_spread 31 = .ok (.istore 4, 2) := by decide +kernel
theorem dX2_spread_33 : decode cX2_spread 33 = .ok (.iconst 0, 1) := by decide +kernel
theorem dX2_spread_34 : decode cX2_spread 34 = .ok (.istore 5, 2) := by decide +kernel
theorem dX2_spread_36 : decode cX2_spread 36 = .ok (.iload 5, 2) := by decide +kernel
theorem dX2_spread_38 : decode cX2_spread 38 = .ok (.iload 4, 2) := by decide +kernel
theorem dX2_spread_40 : decode cX2_spread 40 = .ok (.if_icmp .ge 32, 3) := by decide +kernel
theorem dX2_spread_43 : decode cX2_spread 43 = .ok (.iload 5, 2) := by decide +kernel
theorem dX2_spread_45 : decode cX2_spread 45 = .ok (.sipush 144, 3) := by decide +kernel
theorem dX2_spread_48 : decode cX2_spread 48 = .ok (.if_icmp .ge 24, 3) := by decide +kernel
theorem dX2_spread_51 : decode cX2_spread 51 = .ok (.aload_n 0, 1) := by decide +kernel
theorem dX2_spread_52 : decode cX2_spread 52 = .ok (.aload_n 0, 1) := by decide +kernel
theorem dX2_spread_53 : decode cX2_spread 53 = .ok (.getfield 18, 3) := by decide +kernel
theorem dX2_spread_56 : decode cX2_spread 56 = .ok (.iload 5, 2) := by decide +kernel
theorem dX2_spread_58 : decode cX2_spread 58 = .ok (.iaload, 1) := by decide +kernel
theorem dX2_spread_59 : decode cX2_spread 59 = .ok (.iload 4, 2) := by decide +kernel
theorem dX2_spread_61 : decode cX2_spread 61 = .ok (.invokevirtual 31, 3) := by decide +kernel
theorem dX2_spread_64 : decode cX2_spread 64 = .ok (.istore 4, 2) := by decide +kernel
theorem dX2_spread_66 : decode cX2_spread 66 = .ok (.iinc 5 1, 3) := by decide +kernel
theorem dX2_spread_69 : decode cX2_spread 69 = .ok (.goto (-33), 3) := by decide +kernel
theorem dX2_spread_72 : decode cX2_spread 72 = .ok (.iload 4, 2) := by decide +kernel
theorem dX2_spread_74 : decode cX2_spread 74 = .ok (.ireturn, 1) := by decide +kernel
theorem dX2_stepFrom_0 : decode cX2_stepFrom 0 = .ok (.iload_n 2, 1) := by decide +kernel
theorem dX2_stepFrom_1 : decode cX2_stepFrom 1 = .ok (.istore_n 3, 1) := by decide +kernel
theorem dX2_stepFrom_2 : decode cX2_stepFrom 2 = .ok (.iconst 0, 1) := by decide +kernel
theorem dX2_stepFrom_3 : decode cX2_stepFrom 3 = .ok (.istore 4, 2) := by decide +kernel
theorem dX2_stepFrom_5 : decode cX2_stepFrom 5 = .ok (.iload 4, 2) := by decide +kernel
theorem dX2_stepFrom_7 : decode cX2_stepFrom 7 = .ok (.bipush 26, 2) := by decide +kernel
theorem dX2_stepFrom_9 : decode cX2_stepFrom 9 = .ok (.if_icmp .gt 75, 3) := by decide +kernel
theorem dX2_stepFrom_12 : decode cX2_stepFrom 12 = .ok (.iload_n 1, 1) := by decide +kernel
theorem dX2_stepFrom_13 : decode cX2_stepFrom 13 = .ok (.iload 4, 2) := by decide +kernel
theorem dX2_stepFrom_15 : decode cX2_stepFrom 15 = .ok (.iadd, 1) := by decide +kernel
theorem dX2_stepFrom_16 : decode cX2_stepFrom 16 = .ok (.bipush 13, 2) := by decide +kernel
theorem dX2_stepFrom_18 : decode cX2_stepFrom 18 = .ok (.isub, 1) := by decide +kernel
theorem dX2_stepFrom_19 : decode cX2_stepFrom 19 = .ok (.istore 5, 2) := by decide +kernel
theorem dX2_stepFrom_21 : decode cX2_stepFrom 21 = .ok (.aload_n 0, 1) := by decide +kernel
theorem dX2_stepFrom_22 : decode cX2_stepFrom 22 = .ok (.getfield 9, 3) := by decide +kernel
theorem dX2_stepFrom_25 : decode cX2_stepFrom 25 = .ok (.iload_n 1, 1) := by decide +kernel
theorem dX2_stepFrom_26 : decode cX2_stepFrom 26 = .ok (.iaload, 1) := by decide +kernel
theorem dX2_stepFrom_27 : decode cX2_stepFrom 27 = .ok (.iload 4, 2) := by decide +kernel
theorem dX2_stepFrom_29 : decode cX2_stepFrom 29 = .ok (.ishr, 1) := by decide +kernel
theorem dX2_stepFrom_30 : decode cX2_stepFrom 30 = .ok (.iconst 1, 1) := by decide +kernel
theorem dX2_stepFrom_31 : decode cX2_stepFrom 31 = .ok (.iand, 1) := by decide +kernel
theorem dX2_stepFrom_32 : decode cX2_stepFrom 32 = .ok (.iconst 1, 1) := by decide +kernel
theorem dX2_stepFrom_33 : decode cX2_stepFrom 33 = .ok (.if_icmp .ne 45, 3) := by decide +kernel
theorem dX2_stepFrom_36 : decode cX2_stepFrom 36 = .ok (.aload_n 0, 1) := by decide +kernel
theorem dX2_stepFrom_37 : decode cX2_stepFrom 37 = .ok (.iload 5, 2) := by decide +kernel
theorem dX2_stepFrom_39 : decode cX2_stepFrom 39 = .ok (.invokevirtual 35, 3) := by decide +kernel
theorem dX2_stepFrom_42 : decode cX2_stepFrom 42 = .ok (.ifCond .eq 36, 3) := by decide +kernel
theorem dX2_stepFrom_45 : decode cX2_stepFrom 45 = .ok (.iload_n 3, 1) := by decide +kernel
theorem dX2_stepFrom_46 : decode cX2_stepFrom 46 = .ok (.sipush 144, 3) := by decide +kernel
theorem dX2_stepFrom_49 : decode cX2_stepFrom 49 = .ok (.if_icmp .ge 29, 3) := by decide +kernel
theorem dX2_stepFrom_52 : decode cX2_stepFrom 52 = .ok (.aload_n 0, 1) := by decide +kernel
theorem dX2_stepFrom_53 : decode cX2_stepFrom 53 = .ok (.getfield 15, 3) := by decide +kernel
theorem dX2_stepFrom_56 : decode cX2_stepFrom 56 = .ok (.iload 5, 2) := by decide +kernel
theorem dX2_stepFrom_58 : decode cX2_stepFrom 58 = .ok (.aload_n 0, 1) := by decide +kernel
theorem dX2_stepFrom_59 : decode cX2_stepFrom 59 = .ok (.getfield 15, 3) := by decide +kernel
theorem dX2_stepFrom_62 : decode cX2_stepFrom 62 = .ok (.iload_n 1, 1) := by decide +kernel
theorem dX2_stepFrom_63 : decode cX2_stepFrom 63 = .ok (.iaload, 1) := by decide +kernel
theorem dX2_stepFrom_64 : decode cX2_stepFrom 64 = .ok (.iconst 1, 1) := by decide +kernel
theorem dX2_stepFrom_65 : decode cX2_stepFrom 65 = .ok (.iadd, 1) := by decide +kernel
theorem dX2_stepFrom_66 : decode cX2_stepFrom 66 = .ok (.iastore, 1) := by decide +kernel
theorem dX2_stepFrom_67 : decode cX2_stepFrom 67 = .ok (.aload_n 0, 1) := by decide +kernel
theorem dX2_stepFrom_68 : decode cX2_stepFrom 68 = .ok (.getfield 18, 3) := by decide +kernel
theorem dX2_stepFrom_71 : decode cX2_stepFrom 71 = .ok (.iload_n 3, 1) := by decide +kernel
theorem dX2_stepFrom_72 : decode cX2_stepFrom 72 = .ok (.iload 5, 2) := by decide +kernel
theorem dX2_stepFrom_74 : decode cX2_stepFrom 74 = .ok (.iastore, 1) := by decide +kernel
theorem dX2_stepFrom_75 : decode cX2_stepFrom 75 = .ok (.iinc 3 1, 3) := by decide +kernel
theorem dX2_stepFrom_78 : decode cX2_stepFrom 78 = .ok (.iinc 4 1, 3) := by decide +kernel
theorem dX2_stepFrom_81 : decode cX2_stepFrom 81 = .ok (.goto (-76), 3) := by decide +kernel
theorem dX2_stepFrom_84 : decode cX2_stepFrom 84 = .ok (.iload_n 3, 1) := by decide +kernel
theorem dX2_stepFrom_85 : decode cX2_stepFrom 85 = .ok (.ireturn, 1) := by decide +kernel
theorem dX2_isNew_0 : decode cX2_isNew 0 = .ok (.iload_n 1, 1) := by decide +kernel
theorem dX2_isNew_1 : decode cX2_isNew 1 = .ok (.ifCond .lt 26, 3) := by decide +kernel
theorem dX2_isNew_4 : decode cX2_isNew 4 = .ok (.iload_n 1, 1) := by decide +kernel
theorem dX2_isNew_5 : decode cX2_isNew 5 = .ok (.sipush 144, 3) := by decide +kernel
theorem dX2_isNew_8 : decode cX2_isNew 8 = .ok (.if_icmp .ge 19, 3) := by decide +kernel
theorem dX2_isNew_11 : decode cX2_isNew 11 = .ok (.aload_n 0, 1) := by decide +kernel
theorem dX2_isNew_12 : decode cX2_isNew 12 = .ok (.getfield 15, 3) := by decide +kernel
theorem dX2_isNew_15 : decode cX2_isNew 15 = .ok (.iload_n 1, 1) := by decide +kernel
theorem dX2_isNew_16 : decode cX2_isNew 16 = .ok (.iaload, 1) := by decide +kernel
theorem dX2_isNew_17 : decode cX2_isNew 17 = .ok (.sipush 144, 3) := by decide +kernel
theorem dX2_isNew_20 : decode cX2_isNew 20 = .ok (.if_icmp .ne 7, 3) := by decide +kernel
theorem dX2_isNew_23 : decode cX2_isNew 23 = .ok (.iconst 1, 1) := by decide +kernel
theorem dX2_isNew_24 : decode cX2_isNew 24 = .ok (.goto 4, 3) := by decide +kernel
theorem dX2_isNew_27 : decode cX2_isNew 27 = .ok (.iconst 0, 1) := by decide +kernel
theorem dX2_isNew_28 : decode cX2_isNew 28 = .ok (.ireturn, 1) := by decide +kernel
theorem dX2_findExits_0 : decode cX2_findExits 0 = .ok (.aload_n 0, 1) := by decide +kernel
theorem dX2_findExits_1 : decode cX2_findExits 1 = .ok (.getfield 9, 3) := by decide +kernel
theorem dX2_findExits_4 : decode cX2_findExits 4 = .ok (.iconst 0, 1) := by decide +kernel
theorem dX2_findExits_5 : decode cX2_findExits 5 = .ok (.invokestatic 25, 3) := by decide +kernel
theorem dX2_findExits_8 : decode cX2_findExits 8 = .ok (.iconst 0, 1) := by decide +kernel
theorem dX2_findExits_9 : decode cX2_findExits 9 = .ok (.istore_n 3, 1) := by decide +kernel
theorem dX2_findExits_10 : decode cX2_findExits 10 = .ok (.iload_n 3, 1) := by decide +kernel
theorem dX2_findExits_11 : decode cX2_findExits 11 = .ok (.iload_n 2, 1) := by decide +kernel
theorem dX2_findExits_12 : decode cX2_findExits 12 = .ok (.if_icmp .ge 25, 3) := by decide +kernel
theorem dX2_findExits_15 : decode cX2_findExits 15 = .ok (.aload_n 0, 1) := by decide +kernel
theorem dX2_findExits_16 : decode cX2_findExits 16 = .ok (.aload_n 1, 1) := by decide +kernel
theorem dX2_findExits_17 : decode cX2_findExits 17 = .ok (.iload_n 3, 1) := by decide +kernel
theorem dX2_findExits_18 : decode cX2_findExits 18 = .ok (.aaload, 1) := by decide +kernel
theorem dX2_findExits_19 : decode cX2_findExits 19 = .ok (.getfield 39, 3) := by decide +kernel
theorem dX2_findExits_22 : decode cX2_findExits 22 = .ok (.aload_n 1, 1) := by decide +kernel
theorem dX2_findExits_23 : decode cX2_findExits 23 = .ok (.iload_n 3, 1) := by decide +kernel
theorem dX2_findExits_24 : decode cX2_findExits 24 = .ok (.aaload, 1) := by decide +kernel
theorem dX2_findExits_25 : decode cX2_findExits 25 = .ok (.getfield 45, 3) := by decide +kernel
theorem dX2_findExits_28 : decode cX2_findExits 28 = .ok (.invokevirtual 49, 3) := by decide +kernel
theorem dX2_findExits_31 : decode cX2_findExits 31 = .ok (.iinc 3 1, 3) := by decide +kernel
theorem dX2_findExits_34 : decode cX2_findExits 34 = .ok (.goto (-24), 3) := by decide +kernel
theorem dX2_findExits_37 : decode cX2_findExits 37 = .ok (.return_, 1) := by decide +kernel
theorem dX2_addExits_0 : decode cX2_addExits 0 = .ok (.iconst 1, 1) := by decide +kernel
theorem dX2_addExits_1 : decode cX2_addExits 1 = .ok (.istore_n 3, 1) := by decide +kernel
theorem dX2_addExits_2 : decode cX2_addExits 2 = .ok (.iload_n 3, 1) := by decide +kernel
theorem dX2_addExits_3 : decode cX2_addExits 3 = .ok (.aload_n 1, 1) := by decide +kernel
theorem dX2_addExits_4 : decode cX2_addExits 4 = .ok (.getfield 53, 3) := by decide +kernel
theorem dX2_addExits_7 : decode cX2_addExits 7 = .ok (.if_icmp .ge 71, 3) := by decide +kernel
theorem dX2_addExits_10 : decode cX2_addExits 10 = .ok (.aload_n 1, 1) := by decide +kernel
theorem dX2_addExits_11 : decode cX2_addExits 11 = .ok (.getfield 59, 3) := by decide +kernel
theorem dX2_addExits_14 : decode cX2_addExits 14 = .ok (.iload_n 3, 1) := by decide +kernel
theorem dX2_addExits_15 : decode cX2_addExits 15 = .ok (.iconst 1, 1) := by decide +kernel
theorem dX2_addExits_16 : decode cX2_addExits 16 = .ok (.isub, 1) := by decide +kernel
theorem dX2_addExits_17 : decode cX2_addExits 17 = .ok (.iaload, 1) := by decide +kernel
theorem dX2_addExits_18 : decode cX2_addExits 18 = .ok (.istore 4, 2) := by decide +kernel
theorem dX2_addExits_20 : decode cX2_addExits 20 = .ok (.aload_n 1, 1) := by decide +kernel
theorem dX2_addExits_21 : decode cX2_addExits 21 = .ok (.getfield 59, 3) := by decide +kernel
theorem dX2_addExits_24 : decode cX2_addExits 24 = .ok (.iload_n 3, 1) := by decide +kernel
theorem dX2_addExits_25 : decode cX2_addExits 25 = .ok (.iaload, 1) := by decide +kernel
theorem dX2_addExits_26 : decode cX2_addExits 26 = .ok (.istore 5, 2) := by decide +kernel
theorem dX2_addExits_28 : decode cX2_addExits 28 = .ok (.aload_n 0, 1) := by decide +kernel
theorem dX2_addExits_29 : decode cX2_addExits 29 = .ok (.getfield 9, 3) := by decide +kernel
theorem dX2_addExits_32 : decode cX2_addExits 32 = .ok (.iload 4, 2) := by decide +kernel
theorem dX2_addExits_34 : decode cX2_addExits 34 = .ok (.dup2, 1) := by decide +kernel
theorem dX2_addExits_35 : decode cX2_addExits 35 = .ok (.iaload, 1) := by decide +kernel
theorem dX2_addExits_36 : decode cX2_addExits 36 = .ok (.iconst 1, 1) := by decide +kernel
theorem dX2_addExits_37 : decode cX2_addExits 37 = .ok (.iload 5, 2) := by decide +kernel
theorem dX2_addExits_39 : decode cX2_addExits 39 = .ok (.iload 4, 2) := by decide +kernel
theorem dX2_addExits_41 : decode cX2_addExits 41 = .ok (.isub, 1) := by decide +kernel
theorem dX2_addExits_42 : decode cX2_addExits 42 = .ok (.bipush 13, 2) := by decide +kernel
theorem dX2_addExits_44 : decode cX2_addExits 44 = .ok (.iadd, 1) := by decide +kernel
theorem dX2_addExits_45 : decode cX2_addExits 45 = .ok (.ishl, 1) := by decide +kernel
theorem dX2_addExits_46 : decode cX2_addExits 46 = .ok (.ior, 1) := by decide +kernel
theorem dX2_addExits_47 : decode cX2_addExits 47 = .ok (.iastore, 1) := by decide +kernel
theorem dX2_addExits_48 : decode cX2_addExits 48 = .ok (.iload_n 2, 1) := by decide +kernel
theorem dX2_addExits_49 : decode cX2_addExits 49 = .ok (.ifCond .ne 23, 3) := by decide +kernel
theorem dX2_addExits_52 : decode cX2_addExits 52 = .ok (.aload_n 0, 1) := by decide +kernel
theorem dX2_addExits_53 : decode cX2_addExits 53 = .ok (.getfield 9, 3) := by decide +kernel
theorem dX2_addExits_56 : decode cX2_addExits 56 = .ok (.iload 5, 2) := by decide +kernel
theorem dX2_addExits_58 : decode cX2_addExits 58 = .ok (.dup2, 1) := by decide +kernel
theorem dX2_addExits_59 : decode cX2_addExits 59 = .ok (.iaload, 1) := by decide +kernel
theorem dX2_addExits_60 : decode cX2_addExits 60 = .ok (.iconst 1, 1) := by decide +kernel
theorem dX2_addExits_61 : decode cX2_addExits 61 = .ok (.iload 4, 2) := by decide +kernel
theorem dX2_addExits_63 : decode cX2_addExits 63 = .ok (.iload 5, 2) := by decide +kernel
theorem dX2_addExits_65 : decode cX2_addExits 65 = .ok (.isub, 1) := by decide +kernel
theorem dX2_addExits_66 : decode cX2_addExits 66 = .ok (.bipush 13, 2) := by decide +kernel
theorem dX2_addExits_68 : decode cX2_addExits 68 = .ok (.iadd, 1) := by decide +kernel
theorem dX2_addExits_69 : decode cX2_addExits 69 = .ok (.ishl, 1) := by decide +kernel
theorem dX2_addExits_70 : decode cX2_addExits 70 = .ok (.ior, 1) := by decide +kernel
theorem dX2_addExits_71 : decode cX2_addExits 71 = .ok (.iastore, 1) := by decide +kernel
theorem dX2_addExits_72 : decode cX2_addExits 72 = .ok (.iinc 3 1, 3) := by decide +kernel
theorem dX2_addExits_75 : decode cX2_addExits 75 = .ok (.goto (-73), 3) := by decide +kernel
theorem dX2_addExits_78 : decode cX2_addExits 78 = .ok (.return_, 1) := by decide +kernel
theorem dX2_tellBackwards_0 : decode cX2_tellBackwards 0 = .ok (.aload_n 0, 1) := by decide +kernel
theorem dX2_tellBackwards_1 : decode cX2_tellBackwards 1 = .ok (.getfield 15, 3) := by decide +kernel
theorem dX2_tellBackwards_4 : decode cX2_tellBackwards 4 = .ok (.sipush 144, 3) := by decide +kernel
theorem dX2_tellBackwards_7 : decode cX2_tellBackwards 7 = .ok (.invokestatic 25, 3) := by decide +kernel
theorem dX2_tellBackwards_10 : decode cX2_tellBackwards 10 = .ok (.aload_n 0, 1) := by decide +kernel
theorem dX2_tellBackwards_11 : decode cX2_tellBackwards 11 = .ok (.getfield 15, 3) := by decide +kernel
theorem dX2_tellBackwards_14 : decode cX2_tellBackwards 14 = .ok (.iload_n 3, 1) := by decide +kernel
theorem dX2_tellBackwards_15 : decode cX2_tellBackwards 15 = .ok (.iconst 0, 1) := by decide +kernel
theorem dX2_tellBackwards_16 : decode cX2_tellBackwards 16 = .ok (.iastore, 1) := by decide +kernel
theorem dX2_tellBackwards_17 : decode cX2_tellBackwards 17 = .ok (.iconst 1, 1) := by decide +kernel
theorem dX2_tellBackwards_18 : decode cX2_tellBackwards 18 = .ok (.istore 4, 2) := by decide +kernel
theorem dX2_tellBackwards_20 : decode cX2_tellBackwards 20 = .ok (.iconst 0, 1) := by decide +kernel
theorem dX2_tellBackwards_21 : decode cX2_tellBackwards 21 = .ok (.istore 5, 2) := by decide +kernel
theorem dX2_tellBackwards_23 : decode cX2_tellBackwards 23 = .ok (.iload 5, 2) := by decide +kernel
theorem dX2_tellBackwards_25 : decode cX2_tellBackwards 25 = .ok (.sipush 144, 3) := by decide +kernel
theorem dX2_tellBackwards_28 : decode cX2_tellBackwards 28 = .ok (.if_icmp .gt 56, 3) := by decide +kernel
theorem dX2_tellBackwards_31 : decode cX2_tellBackwards 31 = .ok (.iload 4, 2) := by decide +kernel
theorem dX2_tellBackwards_33 : decode cX2_tellBackwards 33 = .ok (.ifCond .eq 51, 3) := by decide +kernel
theorem dX2_tellBackwards_36 : decode cX2_tellBackwards 36 = .ok (.iconst 0, 1) := by decide +kernel
theorem dX2_tellBackwards_37 : decode cX2_tellBackwards 37 = .ok (.istore 4, 2) := by decide +kernel
theorem dX2_tellBackwards_39 : decode cX2_tellBackwards 39 = .ok (.iconst 0, 1) := by decide +kernel
theorem dX2_tellBackwards_40 : decode cX2_tellBackwards 40 = .ok (.istore 6, 2) := by decide +kernel
theorem dX2_tellBackwards_42 : decode cX2_tellBackwards 42 = .ok (.iload 6, 2) := by decide +kernel
theorem dX2_tellBackwards_44 : decode cX2_tellBackwards 44 = .ok (.iload_n 2, 1) := by decide +kernel
theorem dX2_tellBackwards_45 : decode cX2_tellBackwards 45 = .ok (.if_icmp .ge 33, 3) := by decide +kernel
theorem dX2_tellBackwards_48 : decode cX2_tellBackwards 48 = .ok (.aload_n 0, 1) := by decide +kernel
theorem dX2_tellBackwards_49 : decode cX2_tellBackwards 49 = .ok (.aload_n 1, 1) := by decide +kernel
theorem dX2_tellBackwards_50 : decode cX2_tellBackwards 50 = .ok (.iload 6, 2) := by decide +kernel
theorem dX2_tellBackwards_52 : decode cX2_tellBackwards 52 = .ok (.aaload, 1) := by decide +kernel
theorem dX2_tellBackwards_53 : decode cX2_tellBackwards 53 = .ok (.getfield 39, 3) := by decide +kernel
theorem dX2_tellBackwards_56 : decode cX2_tellBackwards 56 = .ok (.aload_n 1, 1) := by decide +kernel
theorem dX2_tellBackwards_57 : decode cX2_tellBackwards 57 = .ok (.iload 6, 2) := by decide +kernel
theorem dX2_tellBackwards_59 : decode cX2_tellBackwards 59 = .ok (.aaload, 1) := by decide +kernel
theorem dX2_tellBackwards_60 : decode cX2_tellBackwards 60 = .ok (.getfield 45, 3) := by decide +kernel
theorem dX2_tellBackwards_63 : decode cX2_tellBackwards 63 = .ok (.invokevirtual 62, 3) := by decide +kernel
theorem dX2_tellBackwards_66 : decode cX2_tellBackwards 66 = .ok (.ifCond .eq 6, 3) := by decide +kernel
theorem dX2_tellBackwards_69 : decode cX2_tellBackwards 69 = .ok (.iconst 1, 1) := by decide +kernel
theorem dX2_tellBackwards_70 : decode cX2_tellBackwards 70 = .ok (.istore 4, 2) := by decide +kernel
theorem dX2_tellBackwards_72 : decode cX2_tellBackwards 72 = .ok (.iinc 6 1, 3) := by decide +kernel
theorem dX2_tellBackwards_75 : decode cX2_tellBackwards 75 = .ok (.goto (-33), 3) := by decide +kernel
theorem dX2_tellBackwards_78 : decode cX2_tellBackwards 78 = .ok (.iinc 5 1, 3) := by decide +kernel
theorem dX2_tellBackwards_81 : decode cX2_tellBackwards 81 = .ok (.goto (-58), 3) := by decide +kernel
theorem dX2_tellBackwards_84 : decode cX2_tellBackwards 84 = .ok (.return_, 1) := by decide +kernel
theorem dX2_tellAlong_0 : decode cX2_tellAlong 0 = .ok (.iconst 0, 1) := by decide +kernel
theorem dX2_tellAlong_1 : decode cX2_tellAlong 1 = .ok (.istore_n 3, 1) := by decide +kernel
theorem dX2_tellAlong_2 : decode cX2_tellAlong 2 = .ok (.aload_n 1, 1) := by decide +kernel
theorem dX2_tellAlong_3 : decode cX2_tellAlong 3 = .ok (.getfield 53, 3) := by decide +kernel
theorem dX2_tellAlong_6 : decode cX2_tellAlong 6 = .ok (.iconst 1, 1) := by decide +kernel
theorem dX2_tellAlong_7 : decode cX2_tellAlong 7 = .ok (.isub, 1) := by decide +kernel
theorem dX2_tellAlong_8 : decode cX2_tellAlong 8 = .ok (.istore 4, 2) := by decide +kernel
theorem dX2_tellAlong_10 : decode cX2_tellAlong 10 = .ok (.iload 4, 2) := by decide +kernel
theorem dX2_tellAlong_12 : decode cX2_tellAlong 12 = .ok (.ifCond .le 34, 3) := by decide +kernel
theorem dX2_tellAlong_15 : decode cX2_tellAlong 15 = .ok (.aload_n 0, 1) := by decide +kernel
theorem dX2_tellAlong_16 : decode cX2_tellAlong 16 = .ok (.aload_n 1, 1) := by decide +kernel
theorem dX2_tellAlong_17 : decode cX2_tellAlong 17 = .ok (.getfield 59, 3) := by decide +kernel
theorem dX2_tellAlong_20 : decode cX2_tellAlong 20 = .ok (.iload 4, 2) := by decide +kernel
theorem dX2_tellAlong_22 : decode cX2_tellAlong 22 = .ok (.iconst 1, 1) := by decide +kernel
theorem dX2_tellAlong_23 : decode cX2_tellAlong 23 = .ok (.isub, 1) := by decide +kernel
theorem dX2_tellAlong_24 : decode cX2_tellAlong 24 = .ok (.iaload, 1) := by decide +kernel
theorem dX2_tellAlong_25 : decode cX2_tellAlong 25 = .ok (.aload_n 1, 1) := by decide +kernel
theorem dX2_tellAlong_26 : decode cX2_tellAlong 26 = .ok (.getfield 59, 3) := by decide +kernel
theorem dX2_tellAlong_29 : decode cX2_tellAlong 29 = .ok (.iload 4, 2) := by decide +kernel
theorem dX2_tellAlong_31 : decode cX2_tellAlong 31 = .ok (.iaload, 1) := by decide +kernel
theorem dX2_tellAlong_32 : decode cX2_tellAlong 32 = .ok (.invokevirtual 66, 3) := by decide +kernel
theorem dX2_tellAlong_35 : decode cX2_tellAlong 35 = .ok (.ifCond .eq 5, 3) := by decide +kernel
theorem dX2_tellAlong_38 : decode cX2_tellAlong 38 = .ok (.iconst 1, 1) := by decide +kernel
theorem dX2_tellAlong_39 : decode cX2_tellAlong 39 = .ok (.istore_n 3, 1) := by decide +kernel
theorem dX2_tellAlong_40 : decode cX2_tellAlong 40 = .ok (.iinc 4 (-1), 3) := by decide +kernel
theorem dX2_tellAlong_43 : decode cX2_tellAlong 43 = .ok (.goto (-33), 3) := by decide +kernel
theorem dX2_tellAlong_46 : decode cX2_tellAlong 46 = .ok (.iconst 1, 1) := by decide +kernel
theorem dX2_tellAlong_47 : decode cX2_tellAlong 47 = .ok (.istore 4, 2) := by decide +kernel
theorem dX2_tellAlong_49 : decode cX2_tellAlong 49 = .ok (.iload 4, 2) := by decide +kernel
theorem dX2_tellAlong_51 : decode cX2_tellAlong 51 = .ok (.aload_n 1, 1) := by decide +kernel
theorem dX2_tellAlong_52 : decode cX2_tellAlong 52 = .ok (.getfield 53, 3) := by decide +kernel
theorem dX2_tellAlong_55 : decode cX2_tellAlong 55 = .ok (.if_icmp .ge 38, 3) := by decide +kernel
theorem dX2_tellAlong_58 : decode cX2_tellAlong 58 = .ok (.iload_n 2, 1) := by decide +kernel
theorem dX2_tellAlong_59 : decode cX2_tellAlong 59 = .ok (.ifCond .ne 34, 3) := by decide +kernel
theorem dX2_tellAlong_62 : decode cX2_tellAlong 62 = .ok (.aload_n 0, 1) := by decide +kernel
theorem dX2_tellAlong_63 : decode cX2_tellAlong 63 = .ok (.aload_n 1, 1) := by decide +kernel
theorem dX2_tellAlong_64 : decode cX2_tellAlong 64 = .ok (.getfield 59, 3) := by decide +kernel
theorem dX2_tellAlong_67 : decode cX2_tellAlong 67 = .ok (.iload 4, 2) := by decide +kernel
theorem dX2_tellAlong_69 : decode cX2_tellAlong 69 = .ok (.iaload, 1) := by decide +kernel
theorem dX2_tellAlong_70 : decode cX2_tellAlong 70 = .ok (.aload_n 1, 1) := by decide +kernel
theorem dX2_tellAlong_71 : decode cX2_tellAlong 71 = .ok (.getfield 59, 3) := by decide +kernel
theorem dX2_tellAlong_74 : decode cX2_tellAlong 74 = .ok (.iload 4, 2) := by decide +kernel
theorem dX2_tellAlong_76 : decode cX2_tellAlong 76 = .ok (.iconst 1, 1) := by decide +kernel
theorem dX2_tellAlong_77 : decode cX2_tellAlong 77 = .ok (.isub, 1) := by decide +kernel
theorem dX2_tellAlong_78 : decode cX2_tellAlong 78 = .ok (.iaload, 1) := by decide +kernel
theorem dX2_tellAlong_79 : decode cX2_tellAlong 79 = .ok (.invokevirtual 66, 3) := by decide +kernel
theorem dX2_tellAlong_82 : decode cX2_tellAlong 82 = .ok (.ifCond .eq 5, 3) := by decide +kernel
theorem dX2_tellAlong_85 : decode cX2_tellAlong 85 = .ok (.iconst 1, 1) := by decide +kernel
theorem dX2_tellAlong_86 : decode cX2_tellAlong 86 = .ok (.istore_n 3, 1) := by decide +kernel
theorem dX2_tellAlong_87 : decode cX2_tellAlong 87 = .ok (.iinc 4 1, 3) := by decide +kernel
theorem dX2_tellAlong_90 : decode cX2_tellAlong 90 = .ok (.goto (-41), 3) := by decide +kernel
theorem dX2_tellAlong_93 : decode cX2_tellAlong 93 = .ok (.iload_n 3, 1) := by decide +kernel
theorem dX2_tellAlong_94 : decode cX2_tellAlong 94 = .ok (.ireturn, 1) := by decide +kernel
theorem dX2_tell_0 : decode cX2_tell 0 = .ok (.aload_n 0, 1) := by decide +kernel
theorem dX2_tell_1 : decode cX2_tell 1 = .ok (.getfield 15, 3) := by decide +kernel
theorem dX2_tell_4 : decode cX2_tell 4 = .ok (.iload_n 2, 1) := by decide +kernel
theorem dX2_tell_5 : decode cX2_tell 5 = .ok (.iaload, 1) := by decide +kernel
theorem dX2_tell_6 : decode cX2_tell 6 = .ok (.iconst 1, 1) := by decide +kernel
theorem dX2_tell_7 : decode cX2_tell 7 = .ok (.iadd, 1) := by decide +kernel
theorem dX2_tell_8 : decode cX2_tell 8 = .ok (.aload_n 0, 1) := by decide +kernel
theorem dX2_tell_9 : decode cX2_tell 9 = .ok (.getfield 15, 3) := by decide +kernel
theorem dX2_tell_12 : decode cX2_tell 12 = .ok (.iload_n 1, 1) := by decide +kernel
theorem dX2_tell_13 : decode cX2_tell 13 = .ok (.iaload, 1) := by decide +kernel
theorem dX2_tell_14 : decode cX2_tell 14 = .ok (.if_icmp .lt 5, 3) := by decide +kernel
theorem dX2_tell_17 : decode cX2_tell 17 = .ok (.iconst 0, 1) := by decide +kernel
theorem dX2_tell_18 : decode cX2_tell 18 = .ok (.ireturn, 1) := by decide +kernel
theorem dX2_tell_19 : decode cX2_tell 19 = .ok (.aload_n 0, 1) := by decide +kernel
theorem dX2_tell_20 : decode cX2_tell 20 = .ok (.getfield 15, 3) := by decide +kernel
theorem dX2_tell_23 : decode cX2_tell 23 = .ok (.iload_n 1, 1) := by decide +kernel
theorem dX2_tell_24 : decode cX2_tell 24 = .ok (.aload_n 0, 1) := by decide +kernel
theorem dX2_tell_25 : decode cX2_tell 25 = .ok (.getfield 15, 3) := by decide +kernel
theorem dX2_tell_28 : decode cX2_tell 28 = .ok (.iload_n 2, 1) := by decide +kernel
theorem dX2_tell_29 : decode cX2_tell 29 = .ok (.iaload, 1) := by decide +kernel
theorem dX2_tell_30 : decode cX2_tell 30 = .ok (.iconst 1, 1) := by decide +kernel
theorem dX2_tell_31 : decode cX2_tell 31 = .ok (.iadd, 1) := by decide +kernel
theorem dX2_tell_32 : decode cX2_tell 32 = .ok (.iastore, 1) := by decide +kernel
theorem dX2_tell_33 : decode cX2_tell 33 = .ok (.iconst 1, 1) := by decide +kernel
theorem dX2_tell_34 : decode cX2_tell 34 = .ok (.ireturn, 1) := by decide +kernel
theorem dX4_init_0 : decode cX4_init 0 = .ok (.aload_n 0, 1) := by decide +kernel
theorem dX4_init_1 : decode cX4_init 1 = .ok (.invokespecial 3, 3) := by decide +kernel
theorem dX4_init_4 : decode cX4_init 4 = .ok (.aload_n 0, 1) := by decide +kernel
theorem dX4_init_5 : decode cX4_init 5 = .ok (.bipush 24, 2) := by decide +kernel
theorem dX4_init_7 : decode cX4_init 7 = .ok (.newarray .int, 2) := by decide +kernel
theorem dX4_init_9 : decode cX4_init 9 = .ok (.putfield 9, 3) := by decide +kernel
theorem dX4_init_12 : decode cX4_init 12 = .ok (.aload_n 0, 1) := by decide +kernel
theorem dX4_init_13 : decode cX4_init 13 = .ok (.bipush 16, 2) := by decide +kernel
theorem dX4_init_15 : decode cX4_init 15 = .ok (.anewarray 13, 3) := by decide +kernel
theorem dX4_init_18 : decode cX4_init 18 = .ok (.putfield 15, 3) := by decide +kernel
theorem dX4_init_21 : decode cX4_init 21 = .ok (.aload_n 0, 1) := by decide +kernel
theorem dX4_init_22 : decode cX4_init 22 = .ok (.iconst 4, 1) := by decide +kernel
theorem dX4_init_23 : decode cX4_init 23 = .ok (.newarray .int, 2) := by decide +kernel
theorem dX4_init_25 : decode cX4_init 25 = .ok (.putfield 19, 3) := by decide +kernel
theorem dX4_init_28 : decode cX4_init 28 = .ok (.aload_n 0, 1) := by decide +kernel
theorem dX4_init_29 : decode cX4_init 29 = .ok (.iconst 4, 1) := by decide +kernel
theorem dX4_init_30 : decode cX4_init 30 = .ok (.newarray .int, 2) := by decide +kernel
theorem dX4_init_32 : decode cX4_init 32 = .ok (.putfield 22, 3) := by decide +kernel
theorem dX4_init_35 : decode cX4_init 35 = .ok (.aload_n 0, 1) := by decide +kernel
theorem dX4_init_36 : decode cX4_init 36 = .ok (.new 25, 3) := by decide +kernel
theorem dX4_init_39 : decode cX4_init 39 = .ok (.dup, 1) := by decide +kernel
theorem dX4_init_40 : decode cX4_init 40 = .ok (.invokespecial 27, 3) := by decide +kernel
theorem dX4_init_43 : decode cX4_init 43 = .ok (.putfield 28, 3) := by decide +kernel
theorem dX4_init_46 : decode cX4_init 46 = .ok (.iconst 0, 1) := by decide +kernel
theorem dX4_init_47 : decode cX4_init 47 = .ok (.istore_n 1, 1) := by decide +kernel
theorem dX4_init_48 : decode cX4_init 48 = .ok (.iload_n 1, 1) := by decide +kernel
theorem dX4_init_49 : decode cX4_init 49 = .ok (.iconst 4, 1) := by decide +kernel
theorem dX4_init_50 : decode cX4_init 50 = .ok (.if_icmp .ge 16, 3) := by decide +kernel
theorem dX4_init_53 : decode cX4_init 53 = .ok (.aload_n 0, 1) := by decide +kernel
theorem dX4_init_54 : decode cX4_init 54 = .ok (.getfield 9, 3) := by decide +kernel
theorem dX4_init_57 : decode cX4_init 57 = .ok (.iload_n 1, 1) := by decide +kernel
theorem dX4_init_58 : decode cX4_init 58 = .ok (.iconst 1, 1) := by decide +kernel
theorem dX4_init_59 : decode cX4_init 59 = .ok (.iastore, 1) := by decide +kernel
theorem dX4_init_60 : decode cX4_init 60 = .ok (.iinc 1 1, 3) := by decide +kernel
theorem dX4_init_63 : decode cX4_init 63 = .ok (.goto (-15), 3) := by decide +kernel
theorem dX4_init_66 : decode cX4_init 66 = .ok (.iconst 0, 1) := by decide +kernel
theorem dX4_init_67 : decode cX4_init 67 = .ok (.istore_n 1, 1) := by decide +kernel
theorem dX4_init_68 : decode cX4_init 68 = .ok (.iload_n 1, 1) := by decide +kernel
theorem dX4_init_69 : decode cX4_init 69 = .ok (.bipush 16, 2) := by decide +kernel
theorem dX4_init_71 : decode cX4_init 71 = .ok (.if_icmp .ge 22, 3) := by decide +kernel
theorem dX4_init_74 : decode cX4_init 74 = .ok (.aload_n 0, 1) := by decide +kernel
theorem dX4_init_75 : decode cX4_init 75 = .ok (.getfield 15, 3) := by decide +kernel
theorem dX4_init_78 : decode cX4_init 78 = .ok (.iload_n 1, 1) := by decide +kernel
theorem dX4_init_79 : decode cX4_init 79 = .ok (.new 13, 3) := by decide +kernel
theorem dX4_init_82 : decode cX4_init 82 = .ok (.dup, 1) := by decide +kernel
theorem dX4_init_83 : decode cX4_init 83 = .ok (.invokespecial 32, 3) := by decide +kernel
theorem dX4_init_86 : decode cX4_init 86 = .ok (.aastore, 1) := by decide +kernel
theorem dX4_init_87 : decode cX4_init 87 = .ok (.iinc 1 1, 3) := by decide +kernel
theorem dX4_init_90 : decode cX4_init 90 = .ok (.goto (-22), 3) := by decide +kernel
theorem dX4_init_93 : decode cX4_init 93 = .ok (.return_, 1) := by decide +kernel
theorem dX4_addStreet_0 : decode cX4_addStreet 0 = .ok (.iload_n 1, 1) := by decide +kernel
theorem dX4_addStreet_1 : decode cX4_addStreet 1 = .ok (.iload_n 2, 1) := by decide +kernel
theorem dX4_addStreet_2 : decode cX4_addStreet 2 = .ok (.invokestatic 33, 3) := by decide +kernel
theorem dX4_addStreet_5 : decode cX4_addStreet 5 = .ok (.aload_n 0, 1) := by decide +kernel
theorem dX4_addStreet_6 : decode cX4_addStreet 6 = .ok (.getfield 37, 3) := by decide +kernel
theorem dX4_addStreet_9 : decode cX4_addStreet 9 = .ok (.bipush 16, 2) := by decide +kernel
theorem dX4_addStreet_11 : decode cX4_addStreet 11 = .ok (.if_icmp .lt 13, 3) := by decide +kernel
theorem dX4_addStreet_14 : decode cX4_addStreet 14 = .ok (.new 41, 3) := by decide +kernel
theorem dX4_addStreet_17 : decode cX4_addStreet 17 = .ok (.dup, 1) := by decide +kernel
theorem dX4_addStreet_18 : decode cX4_addStreet 18 = .ok (.ldc 43, 2) := by decide +kernel
theorem dX4_addStreet_20 : decode cX4_addStreet 20 = .ok (.invokespecial 45, 3) := by decide +kernel
theorem dX4_addStreet_23 : decode cX4_addStreet 23 = .ok (.athrow, 1) := by decide +kernel
theorem dX4_addStreet_24 : decode cX4_addStreet 24 = .ok (.aload_n 0, 1) := by decide +kernel
theorem dX4_addStreet_25 : decode cX4_addStreet 25 = .ok (.getfield 15, 3) := by decide +kernel
theorem dX4_addStreet_28 : decode cX4_addStreet 28 = .ok (.aload_n 0, 1) := by decide +kernel
theorem dX4_addStreet_29 : decode cX4_addStreet 29 = .ok (.getfield 37, 3) := by decide +kernel
theorem dX4_addStreet_32 : decode cX4_addStreet 32 = .ok (.aaload, 1) := by decide +kernel
theorem dX4_addStreet_33 : decode cX4_addStreet 33 = .ok (.iload_n 1, 1) := by decide +kernel
theorem dX4_addStreet_34 : decode cX4_addStreet 34 = .ok (.iload_n 2, 1) := by decide +kernel
theorem dX4_addStreet_35 : decode cX4_addStreet 35 = .ok (.invokevirtual 48, 3) := by decide +kernel
theorem dX4_addStreet_38 : decode cX4_addStreet 38 = .ok (.aload_n 0, 1) := by decide +kernel
theorem dX4_addStreet_39 : decode cX4_addStreet 39 = .ok (.dup, 1) := by decide +kernel
theorem dX4_addStreet_40 : decode cX4_addStreet 40 = .ok (.getfield 37, 3) := by decide +kernel
theorem dX4_addStreet_43 : decode cX4_addStreet 43 = .ok (.iconst 1, 1) := by decide +kernel
theorem dX4_addStreet_44 : decode cX4_addStreet 44 = .ok (.iadd, 1) := by decide +kernel
theorem dX4_addStreet_45 : decode cX4_addStreet 45 = .ok (.putfield 37, 3) := by decide +kernel
theorem dX4_addStreet_48 : decode cX4_addStreet 48 = .ok (.aload_n 0, 1) := by decide +kernel
theorem dX4_addStreet_49 : decode cX4_addStreet 49 = .ok (.getfield 37, 3) := by decide +kernel
theorem dX4_addStreet_52 : decode cX4_addStreet 52 = .ok (.iconst 1, 1) := by decide +kernel
theorem dX4_addStreet_53 : decode cX4_addStreet 53 = .ok (.isub, 1) := by decide +kernel
theorem dX4_addStreet_54 : decode cX4_addStreet 54 = .ok (.ireturn, 1) := by decide +kernel
theorem dX4_addPoint_0 : decode cX4_addPoint 0 = .ok (.aload_n 0, 1) := by decide +kernel
theorem dX4_addPoint_1 : decode cX4_addPoint 1 = .ok (.iload_n 1, 1) := by decide +kernel
theorem dX4_addPoint_2 : decode cX4_addPoint 2 = .ok (.invokevirtual 51, 3) := by decide +kernel
theorem dX4_addPoint_5 : decode cX4_addPoint 5 = .ok (.iload_n 2, 1) := by decide +kernel
theorem dX4_addPoint_6 : decode cX4_addPoint 6 = .ok (.iload_n 3, 1) := by decide +kernel
theorem dX4_addPoint_7 : decode cX4_addPoint 7 = .ok (.invokestatic 55, 3) := by decide +kernel
theorem dX4_addPoint_10 : decode cX4_addPoint 10 = .ok (.aload_n 0, 1) := by decide +kernel
theorem dX4_addPoint_11 : decode cX4_addPoint 11 = .ok (.getfield 15, 3) := by decide +kernel
theorem dX4_addPoint_14 : decode cX4_addPoint 14 = .ok (.iload_n 1, 1) := by decide +kernel
theorem dX4_addPoint_15 : decode cX4_addPoint 15 = .ok (.aaload, 1) := by decide +kernel
theorem dX4_addPoint_16 : decode cX4_addPoint 16 = .ok (.getfield 58, 3) := by decide +kernel
theorem dX4_addPoint_19 : decode cX4_addPoint 19 = .ok (.astore 4, 2) := by decide +kernel
theorem dX4_addPoint_21 : decode cX4_addPoint 21 = .ok (.aload 4, 2) := by decide +kernel
theorem dX4_addPoint_23 : decode cX4_addPoint 23 = .ok (.iload_n 2, 1) := by decide +kernel
theorem dX4_addPoint_24 : decode cX4_addPoint 24 = .ok (.iload_n 3, 1) := by decide +kernel
theorem dX4_addPoint_25 : decode cX4_addPoint 25 = .ok (.invokevirtual 62, 3) := by decide +kernel
theorem dX4_addPoint_28 : decode cX4_addPoint 28 = .ok (.ifCond .ne 13, 3) := by decide +kernel
theorem dX4_addPoint_31 : decode cX4_addPoint 31 = .ok (.new 68, 3) := by decide +kernel
theorem dX4_addPoint_34 : decode cX4_addPoint 34 = .ok (.dup, 1) := by decide +kernel
theorem dX4_addPoint_35 : decode cX4_addPoint 35 = .ok (.ldc 70, 2) := by decide +kernel
theorem dX4_addPoint_37 : decode cX4_addPoint 37 = .ok (.invokespecial 72, 3) := by decide +kernel
theorem dX4_addPoint_40 : decode cX4_addPoint 40 = .ok (.athrow, 1) := by decide +kernel
theorem dX4_addPoint_41 : decode cX4_addPoint 41 = .ok (.aload 4, 2) := by decide +kernel
theorem dX4_addPoint_43 : decode cX4_addPoint 43 = .ok (.getfield 73, 3) := by decide +kernel
theorem dX4_addPoint_46 : decode cX4_addPoint 46 = .ok (.bipush 10, 2) := by decide +kernel
theorem dX4_addPoint_48 : decode cX4_addPoint 48 = .ok (.if_icmp .lt 13, 3) := by decide +kernel
theorem dX4_addPoint_51 : decode cX4_addPoint 51 = .ok (.new 41, 3) := by decide +kernel
theorem dX4_addPoint_54 : decode cX4_addPoint 54 = .ok (.dup, 1) := by decide +kernel
theorem dX4_addPoint_55 : decode cX4_addPoint 55 = .ok (.ldc 76, 2) := by decide +kernel
theorem dX4_addPoint_57 : decode cX4_addPoint 57 = .ok (.invokespecial 45, 3) := by decide +kernel
theorem dX4_addPoint_60 : decode cX4_addPoint 60 = .ok (.athrow, 1) := by decide +kernel
theorem dX4_addPoint_61 : decode cX4_addPoint 61 = .ok (.aload 4, 2) := by decide +kernel
theorem dX4_addPoint_63 : decode cX4_addPoint 63 = .ok (.iload_n 2, 1) := by decide +kernel
theorem dX4_addPoint_64 : decode cX4_addPoint 64 = .ok (.iload_n 3, 1) := by decide +kernel
theorem dX4_addPoint_65 : decode cX4_addPoint 65 = .ok (.invokevirtual 78, 3) := by decide +kernel
theorem dX4_addPoint_68 : decode cX4_addPoint 68 = .ok (.aload 4, 2) := by decide +kernel
theorem dX4_addPoint_70 : decode cX4_addPoint 70 = .ok (.getfield 81, 3) := by decide +kernel
theorem dX4_addPoint_73 : decode cX4_addPoint 73 = .ok (.ireturn, 1) := by decide +kernel
theorem dX4_dropPoint_0 : decode cX4_dropPoint 0 = .ok (.aload_n 0, 1) := by decide +kernel
theorem dX4_dropPoint_1 : decode cX4_dropPoint 1 = .ok (.iload_n 1, 1) := by decide +kernel
theorem dX4_dropPoint_2 : decode cX4_dropPoint 2 = .ok (.invokevirtual 51, 3) := by decide +kernel
theorem dX4_dropPoint_5 : decode cX4_dropPoint 5 = .ok (.aload_n 0, 1) := by decide +kernel
theorem dX4_dropPoint_6 : decode cX4_dropPoint 6 = .ok (.getfield 15, 3) := by decide +kernel
theorem dX4_dropPoint_9 : decode cX4_dropPoint 9 = .ok (.iload_n 1, 1) := by decide +kernel
theorem dX4_dropPoint_10 : decode cX4_dropPoint 10 = .ok (.aaload, 1) := by decide +kernel
theorem dX4_dropPoint_11 : decode cX4_dropPoint 11 = .ok (.getfield 58, 3) := by decide +kernel
theorem dX4_dropPoint_14 : decode cX4_dropPoint 14 = .ok (.astore_n 2, 1) := by decide +kernel
theorem dX4_dropPoint_15 : decode cX4_dropPoint 15 = .ok (.aload_n 2, 1) := by decide +kernel
theorem dX4_dropPoint_16 : decode cX4_dropPoint 16 = .ok (.getfield 73, 3) := by decide +kernel
theorem dX4_dropPoint_19 : decode cX4_dropPoint 19 = .ok (.ifCond .ne 13, 3) := by decide +kernel
theorem dX4_dropPoint_22 : decode cX4_dropPoint 22 = .ok (.new 41, 3) := by decide +kernel
theorem dX4_dropPoint_25 : decode cX4_dropPoint 25 = .ok (.dup, 1) := by decide +kernel
theorem dX4_dropPoint_26 : decode cX4_dropPoint 26 = .ok (.ldc 84, 2) := by decide +kernel
theorem dX4_dropPoint_28 : decode cX4_dropPoint 28 = .ok (.invokespecial 45, 3) := by decide +kernel
theorem dX4_dropPoint_31 : decode cX4_dropPoint 31 = .ok (.athrow, 1) := by decide +kernel
theorem dX4_dropPoint_32 : decode cX4_dropPoint 32 = .ok (.aload_n 2, 1) := by decide +kernel
theorem dX4_dropPoint_33 : decode cX4_dropPoint 33 = .ok (.invokevirtual 86, 3) := by decide +kernel
theorem dX4_dropPoint_36 : decode cX4_dropPoint 36 = .ok (.aload_n 2, 1) := by decide +kernel
theorem dX4_dropPoint_37 : decode cX4_dropPoint 37 = .ok (.getfield 81, 3) := by decide +kernel
theorem dX4_dropPoint_40 : decode cX4_dropPoint 40 = .ok (.ireturn, 1) := by decide +kernel
theorem dX4_setOneWay_0 : decode cX4_setOneWay 0 = .ok (.aload_n 0, 1) := by decide +kernel
theorem dX4_setOneWay_1 : decode cX4_setOneWay 1 = .ok (.iload_n 1, 1) := by decide +kernel
theorem dX4_setOneWay_2 : decode cX4_setOneWay 2 = .ok (.invokevirtual 51, 3) := by decide +kernel
theorem dX4_setOneWay_5 : decode cX4_setOneWay 5 = .ok (.aload_n 0, 1) := by decide +kernel
theorem dX4_setOneWay_6 : decode cX4_setOneWay 6 = .ok (.getfield 15, 3) := by decide +kernel
theorem dX4_setOneWay_9 : decode cX4_setOneWay 9 = .ok (.iload_n 1, 1) := by decide +kernel
theorem dX4_setOneWay_10 : decode cX4_setOneWay 10 = .ok (.aaload, 1) := by decide +kernel
theorem dX4_setOneWay_11 : decode cX4_setOneWay 11 = .ok (.getfield 89, 3) := by decide +kernel
theorem dX4_setOneWay_14 : decode cX4_setOneWay 14 = .ok (.istore_n 3, 1) := by decide +kernel
theorem dX4_setOneWay_15 : decode cX4_setOneWay 15 = .ok (.aload_n 0, 1) := by decide +kernel
theorem dX4_setOneWay_16 : decode cX4_setOneWay 16 = .ok (.getfield 15, 3) := by decide +kernel
theorem dX4_setOneWay_19 : decode cX4_setOneWay 19 = .ok (.iload_n 1, 1) := by decide +kernel
theorem dX4_setOneWay_20 : decode cX4_setOneWay 20 = .ok (.aaload, 1) := by decide +kernel
theorem dX4_setOneWay_21 : decode cX4_setOneWay 21 = .ok (.iload_n 2, 1) := by decide +kernel
theorem dX4_setOneWay_22 : decode cX4_setOneWay 22 = .ok (.putfield 89, 3) := by decide +kernel
theorem dX4_setOneWay_25 : decode cX4_setOneWay 25 = .ok (.iload_n 3, 1) := by decide +kernel
theorem dX4_setOneWay_26 : decode cX4_setOneWay 26 = .ok (.ireturn, 1) := by decide +kernel
theorem dX4_rename_0 : decode cX4_rename 0 = .ok (.aload_n 0, 1) := by decide +kernel
theorem dX4_rename_1 : decode cX4_rename 1 = .ok (.iload_n 1, 1) := by decide +kernel
theorem dX4_rename_2 : decode cX4_rename 2 = .ok (.invokevirtual 51, 3) := by decide +kernel
theorem dX4_rename_5 : decode cX4_rename 5 = .ok (.iload_n 2, 1) := by decide +kernel
theorem dX4_rename_6 : decode cX4_rename 6 = .ok (.iload_n 3, 1) := by decide +kernel
theorem dX4_rename_7 : decode cX4_rename 7 = .ok (.invokestatic 33, 3) := by decide +kernel
theorem dX4_rename_10 : decode cX4_rename 10 = .ok (.aload_n 0, 1) := by decide +kernel
theorem dX4_rename_11 : decode cX4_rename 11 = .ok (.getfield 15, 3) := by decide +kernel
theorem dX4_rename_14 : decode cX4_rename 14 = .ok (.iload_n 1, 1) := by decide +kernel
theorem dX4_rename_15 : decode cX4_rename 15 = .ok (.aaload, 1) := by decide +kernel
theorem dX4_rename_16 : decode cX4_rename 16 = .ok (.iload_n 2, 1) := by decide +kernel
theorem dX4_rename_17 : decode cX4_rename 17 = .ok (.iload_n 3, 1) := by decide +kernel
theorem dX4_rename_18 : decode cX4_rename 18 = .ok (.invokevirtual 48, 3) := by decide +kernel
theorem dX4_rename_21 : decode cX4_rename 21 = .ok (.return_, 1) := by decide +kernel
theorem dX4_setKind_0 : decode cX4_setKind 0 = .ok (.iload_n 1, 1) := by decide +kernel
theorem dX4_setKind_1 : decode cX4_setKind 1 = .ok (.ifCond .lt 9, 3) := by decide +kernel
theorem dX4_setKind_4 : decode cX4_setKind 4 = .ok (.iload_n 1, 1) := by decide +kernel
theorem dX4_setKind_5 : decode cX4_setKind 5 = .ok (.bipush 24, 2) := by decide +kernel
theorem dX4_setKind_7 : decode cX4_setKind 7 = .ok (.if_icmp .lt 13, 3) := by decide +kernel
theorem dX4_setKind_10 : decode cX4_setKind 10 = .ok (.new 93, 3) := by decide +kernel
theorem dX4_setKind_13 : decode cX4_setKind 13 = .ok (.dup, 1) := by decide +kernel
theorem dX4_setKind_14 : decode cX4_setKind 14 = .ok (.ldc 95, 2) := by decide +kernel
theorem dX4_setKind_16 : decode cX4_setKind 16 = .ok (.invokespecial 97, 3) := by decide +kernel
theorem dX4_setKind_19 : decode cX4_setKind 19 = .ok (.athrow, 1) := by decide +kernel
theorem dX4_setKind_20 : decode cX4_setKind 20 = .ok (.iload_n 2, 1) := by decide +kernel
theorem dX4_setKind_21 : decode cX4_setKind 21 = .ok (.ifCond .lt 8, 3) := by decide +kernel
theorem dX4_setKind_24 : decode cX4_setKind 24 = .ok (.iload_n 2, 1) := by decide +kernel
theorem dX4_setKind_25 : decode cX4_setKind 25 = .ok (.iconst 2, 1) := by decide +kernel
theorem dX4_setKind_26 : decode cX4_setKind 26 = .ok (.if_icmp .le 13, 3) := by decide +kernel
theorem dX4_setKind_29 : decode cX4_setKind 29 = .ok (.new 68, 3) := by decide +kernel
theorem dX4_setKind_32 : decode cX4_setKind 32 = .ok (.dup, 1) := by decide +kernel
theorem dX4_setKind_33 : decode cX4_setKind 33 = .ok (.ldc 98, 2) := by decide +kernel
theorem dX4_setKind_35 : decode cX4_setKind 35 = .ok (.invokespecial 72, 3) := by decide +kernel
theorem dX4_setKind_38 : decode cX4_setKind 38 = .ok (.athrow, 1) := by decide +kernel
theorem dX4_setKind_39 : decode cX4_setKind 39 = .ok (.aload_n 0, 1) := by decide +kernel
theorem dX4_setKind_40 : decode cX4_setKind 40 = .ok (.getfield 9, 3) := by decide +kernel
theorem dX4_setKind_43 : decode cX4_setKind 43 = .ok (.iload_n 1, 1) := by decide +kernel
theorem dX4_setKind_44 : decode cX4_setKind 44 = .ok (.iaload, 1) := by decide +kernel
theorem dX4_setKind_45 : decode cX4_setKind 45 = .ok (.istore_n 3, 1) := by decide +kernel
theorem dX4_setKind_46 : decode cX4_setKind 46 = .ok (.aload_n 0, 1) := by decide +kernel
theorem dX4_setKind_47 : decode cX4_setKind 47 = .ok (.getfield 9, 3) := by decide +kernel
theorem dX4_setKind_50 : decode cX4_setKind 50 = .ok (.iload_n 1, 1) := by decide +kernel
theorem dX4_setKind_51 : decode cX4_setKind 51 = .ok (.iload_n 2, 1) := by decide +kernel
theorem dX4_setKind_52 : decode cX4_setKind 52 = .ok (.iastore, 1) := by decide +kernel
theorem dX4_setKind_53 : decode cX4_setKind 53 = .ok (.iload_n 3, 1) := by decide +kernel
theorem dX4_setKind_54 : decode cX4_setKind 54 = .ok (.ireturn, 1) := by decide +kernel
theorem dX4_streets_0 : decode cX4_streets 0 = .ok (.aload_n 0, 1) := by decide +kernel
theorem dX4_streets_1 : decode cX4_streets 1 = .ok (.getfield 37, 3) := by decide +kernel
theorem dX4_streets_4 : decode cX4_streets 4 = .ok (.ireturn, 1) := by decide +kernel
theorem dX4_streetAt_0 : decode cX4_streetAt 0 = .ok (.iload_n 1, 1) := by decide +kernel
theorem dX4_streetAt_1 : decode cX4_streetAt 1 = .ok (.ifCond .lt 11, 3) := by decide +kernel
theorem dX4_streetAt_4 : decode cX4_streetAt 4 = .ok (.iload_n 1, 1) := by decide +kernel
theorem dX4_streetAt_5 : decode cX4_streetAt 5 = .ok (.aload_n 0, 1) := by decide +kernel
theorem dX4_streetAt_6 : decode cX4_streetAt 6 = .ok (.getfield 37, 3) := by decide +kernel
theorem dX4_streetAt_9 : decode cX4_streetAt 9 = .ok (.if_icmp .lt 13, 3) := by decide +kernel
theorem dX4_streetAt_12 : decode cX4_streetAt 12 = .ok (.new 93, 3) := by decide +kernel
theorem dX4_streetAt_15 : decode cX4_streetAt 15 = .ok (.dup, 1) := by decide +kernel
theorem dX4_streetAt_16 : decode cX4_streetAt 16 = .ok (.ldc 100, 2) := by decide +kernel
theorem dX4_streetAt_18 : decode cX4_streetAt 18 = .ok (.invokespecial 97, 3) := by decide +kernel
theorem dX4_streetAt_21 : decode cX4_streetAt 21 = .ok (.athrow, 1) := by decide +kernel
theorem dX4_streetAt_22 : decode cX4_streetAt 22 = .ok (.iconst 0, 1) := by decide +kernel
theorem dX4_streetAt_23 : decode cX4_streetAt 23 = .ok (.istore_n 2, 1) := by decide +kernel
theorem dX4_streetAt_24 : decode cX4_streetAt 24 = .ok (.iload_n 2, 1) := by decide +kernel
theorem dX4_streetAt_25 : decode cX4_streetAt 25 = .ok (.aload_n 0, 1) := by decide +kernel
theorem dX4_streetAt_26 : decode cX4_streetAt 26 = .ok (.getfield 37, 3) := by decide +kernel
theorem dX4_streetAt_29 : decode cX4_streetAt 29 = .ok (.iconst 1, 1) := by decide +kernel
theorem dX4_streetAt_30 : decode cX4_streetAt 30 = .ok (.isub, 1) := by decide +kernel
theorem dX4_streetAt_31 : decode cX4_streetAt 31 = .ok (.if_icmp .ge 18, 3) := by decide +kernel
theorem dX4_streetAt_34 : decode cX4_streetAt 34 = .ok (.aload_n 0, 1) := by decide +kernel
theorem dX4_streetAt_35 : decode cX4_streetAt 35 = .ok (.iload_n 2, 1) := by decide +kernel
theorem dX4_streetAt_36 : decode cX4_streetAt 36 = .ok (.invokevirtual 102, 3) := by decide +kernel
theorem dX4_streetAt_39 : decode cX4_streetAt 39 = .ok (.iload_n 1, 1) := by decide +kernel
theorem dX4_streetAt_40 : decode cX4_streetAt 40 = .ok (.if_icmp .eq 9, 3) := by decide +kernel
theorem dX4_streetAt_43 : decode cX4_streetAt 43 = .ok (.iinc 2 1, 3) := by decide +kernel
theorem dX4_streetAt_46 : decode cX4_streetAt 46 = .ok (.goto (-22), 3) := by decide +kernel
theorem dX4_streetAt_49 : decode cX4_streetAt 49 = .ok (.iload_n 2, 1) := by decide +kernel
theorem dX4_streetAt_50 : decode cX4_streetAt 50 = .ok (.ireturn, 1) := by decide +kernel
theorem dX4_placeOf_0 : decode cX4_placeOf 0 = .ok (.aload_n 0, 1) := by decide +kernel
theorem dX4_placeOf_1 : decode cX4_placeOf 1 = .ok (.iload_n 1, 1) := by decide +kernel
theorem dX4_placeOf_2 : decode cX4_placeOf 2 = .ok (.invokevirtual 51, 3) := by decide +kernel
theorem dX4_placeOf_5 : decode cX4_placeOf 5 = .ok (.aload_n 0, 1) := by decide +kernel
theorem dX4_placeOf_6 : decode cX4_placeOf 6 = .ok (.iload_n 1, 1) := by decide +kernel
theorem dX4_placeOf_7 : decode cX4_placeOf 7 = .ok (.invokevirtual 102, 3) := by decide +kernel
theorem dX4_placeOf_10 : decode cX4_placeOf 10 = .ok (.ireturn, 1) := by decide +kernel
theorem dX4_compareKeys_0 : decode cX4_compareKeys 0 = .ok (.aload_n 0, 1) := by decide +kernel
theorem dX4_compareKeys_1 : decode cX4_compareKeys 1 = .ok (.iload_n 1, 1) := by decide +kernel
theorem dX4_compareKeys_2 : decode cX4_compareKeys 2 = .ok (.invokevirtual 51, 3) := by decide +kernel
theorem dX4_compareKeys_5 : decode cX4_compareKeys 5 = .ok (.aload_n 0, 1) := by decide +kernel
theorem dX4_compareKeys_6 : decode cX4_compareKeys 6 = .ok (.iload_n 2, 1) := by decide +kernel
theorem dX4_compareKeys_7 : decode cX4_compareKeys 7 = .ok (.invokevirtual 51, 3) := by decide +kernel
theorem dX4_compareKeys_10 : decode cX4_compareKeys 10 = .ok (.aload_n 0, 1) := by decide +kernel
theorem dX4_compareKeys_11 : decode cX4_compareKeys 11 = .ok (.iload_n 1, 1) := by decide +kernel
theorem dX4_compareKeys_12 : decode cX4_compareKeys 12 = .ok (.iload_n 2, 1) := by decide +kernel
theorem dX4_compareKeys_13 : decode cX4_compareKeys 13 = .ok (.invokevirtual 106, 3) := by decide +kernel
theorem dX4_compareKeys_16 : decode cX4_compareKeys 16 = .ok (.ireturn, 1) := by decide +kernel
theorem dX4_lineLength_0 : decode cX4_lineLength 0 = .ok (.aload_n 0, 1) := by decide +kernel
theorem dX4_lineLength_1 : decode cX4_lineLength 1 = .ok (.iload_n 1, 1) := by decide +kernel
theorem dX4_lineLength_2 : decode cX4_lineLength 2 = .ok (.invokevirtual 51, 3) := by decide +kernel
theorem dX4_lineLength_5 : decode cX4_lineLength 5 = .ok (.aload_n 0, 1) := by decide +kernel
theorem dX4_lineLength_6 : decode cX4_lineLength 6 = .ok (.aload_n 0, 1) := by decide +kernel
theorem dX4_lineLength_7 : decode cX4_lineLength 7 = .ok (.getfield 15, 3) := by decide +kernel
theorem dX4_lineLength_10 : decode cX4_lineLength 10 = .ok (.iload_n 1, 1) := by decide +kernel
theorem dX4_lineLength_11 : decode cX4_lineLength 11 = .ok (.aaload, 1) := by decide +kernel
theorem dX4_lineLength_12 : decode cX4_lineLength 12 = .ok (.invokevirtual 110, 3) := by decide +kernel
theorem dX4_lineLength_15 : decode cX4_lineLength 15 = .ok (.invokevirtual 114, 3) := by decide +kernel
theorem dX4_lineLength_18 : decode cX4_lineLength 18 = .ok (.ireturn, 1) := by decide +kernel
theorem dX4_lineChar_0 : decode cX4_lineChar 0 = .ok (.aload_n 0, 1) := by decide +kernel
theorem dX4_lineChar_1 : decode cX4_lineChar 1 = .ok (.iload_n 1, 1) := by decide +kernel
theorem dX4_lineChar_2 : decode cX4_lineChar 2 = .ok (.invokevirtual 51, 3) := by decide +kernel
theorem dX4_lineChar_5 : decode cX4_lineChar 5 = .ok (.aload_n 0, 1) := by decide +kernel
theorem dX4_lineChar_6 : decode cX4_lineChar 6 = .ok (.aload_n 0, 1) := by decide +kernel
theorem dX4_lineChar_7 : decode cX4_lineChar 7 = .ok (.getfield 15, 3) := by decide +kernel
theorem dX4_lineChar_10 : decode cX4_lineChar 10 = .ok (.iload_n 1, 1) := by decide +kernel
theorem dX4_lineChar_11 : decode cX4_lineChar 11 = .ok (.aaload, 1) := by decide +kernel
theorem dX4_lineChar_12 : decode cX4_lineChar 12 = .ok (.invokevirtual 110, 3) := by decide +kernel
theorem dX4_lineChar_15 : decode cX4_lineChar 15 = .ok (.astore_n 3, 1) := by decide +kernel
theorem dX4_lineChar_16 : decode cX4_lineChar 16 = .ok (.iload_n 2, 1) := by decide +kernel
theorem dX4_lineChar_17 : decode cX4_lineChar 17 = .ok (.ifCond .lt 11, 3) := by decide +kernel
theorem dX4_lineChar_20 : decode cX4_lineChar 20 = .ok (.iload_n 2, 1) := by decide +kernel
theorem dX4_lineChar_21 : decode cX4_lineChar 21 = .ok (.aload_n 3, 1) := by decide +kernel
theorem dX4_lineChar_22 : decode cX4_lineChar 22 = .ok (.invokevirtual 114, 3) := by decide +kernel
theorem dX4_lineChar_25 : decode cX4_lineChar 25 = .ok (.if_icmp .lt 13, 3) := by decide +kernel
theorem dX4_lineChar_28 : decode cX4_lineChar 28 = .ok (.new 93, 3) := by decide +kernel
theorem dX4_lineChar_31 : decode cX4_lineChar 31 = .ok (.dup, 1) := by decide +kernel
theorem dX4_lineChar_32 : decode cX4_lineChar 32 = .ok (.ldc 119, 2) := by decide +kernel
theorem dX4_lineChar_34 : decode cX4_lineChar 34 = .ok (.invokespecial 97, 3) := by decide +kernel
theorem dX4_lineChar_37 : decode cX4_lineChar 37 = .ok (.athrow, 1) := by decide +kernel
theorem dX4_lineChar_38 : decode cX4_lineChar 38 = .ok (.aload_n 3, 1) := by decide +kernel
theorem dX4_lineChar_39 : decode cX4_lineChar 39 = .ok (.iload_n 2, 1) := by decide +kernel
theorem dX4_lineChar_40 : decode cX4_lineChar 40 = .ok (.invokevirtual 121, 3) := by decide +kernel
theorem dX4_lineChar_43 : decode cX4_lineChar 43 = .ok (.ireturn, 1) := by decide +kernel
theorem dX4_trackLength_0 : decode cX4_trackLength 0 = .ok (.aload_n 0, 1) := by decide +kernel
theorem dX4_trackLength_1 : decode cX4_trackLength 1 = .ok (.iload_n 1, 1) := by decide +kernel
theorem dX4_trackLength_2 : decode cX4_trackLength 2 = .ok (.invokevirtual 51, 3) := by decide +kernel
theorem dX4_trackLength_5 : decode cX4_trackLength 5 = .ok (.aload_n 0, 1) := by decide +kernel
theorem dX4_trackLength_6 : decode cX4_trackLength 6 = .ok (.getfield 15, 3) := by decide +kernel
theorem dX4_trackLength_9 : decode cX4_trackLength 9 = .ok (.iload_n 1, 1) := by decide +kernel
theorem dX4_trackLength_10 : decode cX4_trackLength 10 = .ok (.aaload, 1) := by decide +kernel
theorem dX4_trackLength_11 : decode cX4_trackLength 11 = .ok (.getfield 58, 3) := by decide +kernel
theorem dX4_trackLength_14 : decode cX4_trackLength 14 = .ok (.getfield 81, 3) := by decide +kernel
theorem dX4_trackLength_17 : decode cX4_trackLength 17 = .ok (.ireturn, 1) := by decide +kernel
theorem dX4_squares_0 : decode cX4_squares 0 = .ok (.aload_n 0, 1) := by decide +kernel
theorem dX4_squares_1 : decode cX4_squares 1 = .ok (.iload_n 1, 1) := by decide +kernel
theorem dX4_squares_2 : decode cX4_squares 2 = .ok (.invokevirtual 51, 3) := by decide +kernel
theorem dX4_squares_5 : decode cX4_squares 5 = .ok (.aload_n 0, 1) := by decide +kernel
theorem dX4_squares_6 : decode cX4_squares 6 = .ok (.getfield 15, 3) := by decide +kernel
theorem dX4_squares_9 : decode cX4_squares 9 = .ok (.iload_n 1, 1) := by decide +kernel
theorem dX4_squares_10 : decode cX4_squares 10 = .ok (.aaload, 1) := by decide +kernel
theorem dX4_squares_11 : decode cX4_squares 11 = .ok (.getfield 58, 3) := by decide +kernel
theorem dX4_squares_14 : decode cX4_squares 14 = .ok (.invokevirtual 125, 3) := by decide +kernel
theorem dX4_squares_17 : decode cX4_squares 17 = .ok (.ireturn, 1) := by decide +kernel
theorem dX4_runs_0 : decode cX4_runs 0 = .ok (.aload_n 0, 1) := by decide +kernel
theorem dX4_runs_1 : decode cX4_runs 1 = .ok (.iload_n 1, 1) := by decide +kernel
theorem dX4_runs_2 : decode cX4_runs 2 = .ok (.invokevirtual 51, 3) := by decide +kernel
theorem dX4_runs_5 : decode cX4_runs 5 = .ok (.aload_n 0, 1) := by decide +kernel
theorem dX4_runs_6 : decode cX4_runs 6 = .ok (.getfield 15, 3) := by decide +kernel
theorem dX4_runs_9 : decode cX4_runs 9 = .ok (.iload_n 1, 1) := by decide +kernel
theorem dX4_runs_10 : decode cX4_runs 10 = .ok (.aaload, 1) := by decide +kernel
theorem dX4_runs_11 : decode cX4_runs 11 = .ok (.getfield 58, 3) := by decide +kernel
theorem dX4_runs_14 : decode cX4_runs 14 = .ok (.invokevirtual 128, 3) := by decide +kernel
theorem dX4_runs_17 : decode cX4_runs 17 = .ok (.ireturn, 1) := by decide +kernel
theorem dX4_isOn_0 : decode cX4_isOn 0 = .ok (.aload_n 0, 1) := by decide +kernel
theorem dX4_isOn_1 : decode cX4_isOn 1 = .ok (.iload_n 1, 1) := by decide +kernel
theorem dX4_isOn_2 : decode cX4_isOn 2 = .ok (.invokevirtual 51, 3) := by decide +kernel
theorem dX4_isOn_5 : decode cX4_isOn 5 = .ok (.iload_n 2, 1) := by decide +kernel
theorem dX4_isOn_6 : decode cX4_isOn 6 = .ok (.iload_n 3, 1) := by decide +kernel
theorem dX4_isOn_7 : decode cX4_isOn 7 = .ok (.invokestatic 55, 3) := by decide +kernel
theorem dX4_isOn_10 : decode cX4_isOn 10 = .ok (.aload_n 0, 1) := by decide +kernel
theorem dX4_isOn_11 : decode cX4_isOn 11 = .ok (.getfield 15, 3) := by decide +kernel
theorem dX4_isOn_14 : decode cX4_isOn 14 = .ok (.iload_n 1, 1) := by decide +kernel
theorem dX4_isOn_15 : decode cX4_isOn 15 = .ok (.aaload, 1) := by decide +kernel
theorem dX4_isOn_16 : decode cX4_isOn 16 = .ok (.getfield 58, 3) := by decide +kernel
theorem dX4_isOn_19 : decode cX4_isOn 19 = .ok (.iload_n 2, 1) := by decide +kernel
theorem dX4_isOn_20 : decode cX4_isOn 20 = .ok (.iload_n 3, 1) := by decide +kernel
theorem dX4_isOn_21 : decode cX4_isOn 21 = .ok (.invokevirtual 131, 3) := by decide +kernel
theorem dX4_isOn_24 : decode cX4_isOn 24 = .ok (.ireturn, 1) := by decide +kernel
theorem dX4_isOnTrack_0 : decode cX4_isOnTrack 0 = .ok (.aload_n 0, 1) := by decide +kernel
theorem dX4_isOnTrack_1 : decode cX4_isOnTrack 1 = .ok (.iload_n 1, 1) := by decide +kernel
theorem dX4_isOnTrack_2 : decode cX4_isOnTrack 2 = .ok (.invokevirtual 51, 3) := by decide +kernel
theorem dX4_isOnTrack_5 : decode cX4_isOnTrack 5 = .ok (.iload_n 2, 1) := by decide +kernel
theorem dX4_isOnTrack_6 : decode cX4_isOnTrack 6 = .ok (.iload_n 3, 1) := by decide +kernel
theorem dX4_isOnTrack_7 : decode cX4_isOnTrack 7 = .ok (.invokestatic 55, 3) := by decide +kernel
theorem dX4_isOnTrack_10 : decode cX4_isOnTrack 10 = .ok (.aload_n 0, 1) := by decide +kernel
theorem dX4_isOnTrack_11 : decode cX4_isOnTrack 11 = .ok (.getfield 15, 3) := by decide +kernel
theorem dX4_isOnTrack_14 : decode cX4_isOnTrack 14 = .ok (.iload_n 1, 1) := by decide +kernel
theorem dX4_isOnTrack_15 : decode cX4_isOnTrack 15 = .ok (.aaload, 1) := by decide +kernel
theorem dX4_isOnTrack_16 : decode cX4_isOnTrack 16 = .ok (.getfield 58, 3) := by decide +kernel
theorem dX4_isOnTrack_19 : decode cX4_isOnTrack 19 = .ok (.iload_n 2, 1) := by decide +kernel
theorem dX4_isOnTrack_20 : decode cX4_isOnTrack 20 = .ok (.iload_n 3, 1) := by decide +kernel
theorem dX4_isOnTrack_21 : decode cX4_isOnTrack 21 = .ok (.invokestatic 134, 3) := by decide +kernel
theorem dX4_isOnTrack_24 : decode cX4_isOnTrack 24 = .ok (.invokevirtual 137, 3) := by decide +kernel
theorem dX4_isOnTrack_27 : decode cX4_isOnTrack 27 = .ok (.ireturn, 1) := by decide +kernel
theorem dX4_streetsOf_0 : decode cX4_streetsOf 0 = .ok (.iload_n 1, 1) := by decide +kernel
theorem dX4_streetsOf_1 : decode cX4_streetsOf 1 = .ok (.iload_n 2, 1) := by decide +kernel
theorem dX4_streetsOf_2 : decode cX4_streetsOf 2 = .ok (.invokestatic 55, 3) := by decide +kernel
theorem dX4_streetsOf_5 : decode cX4_streetsOf 5 = .ok (.iconst 0, 1) := by decide +kernel
theorem dX4_streetsOf_6 : decode cX4_streetsOf 6 = .ok (.istore_n 3, 1) := by decide +kernel
theorem dX4_streetsOf_7 : decode cX4_streetsOf 7 = .ok (.iconst 0, 1) := by decide +kernel
theorem dX4_streetsOf_8 : decode cX4_streetsOf 8 = .ok (.istore 4, 2) := by decide +kernel
theorem dX4_streetsOf_10 : decode cX4_streetsOf 10 = .ok (.iload 4, 2) := by decide +kernel
theorem dX4_streetsOf_12 : decode cX4_streetsOf 12 = .ok (.aload_n 0, 1) := by decide +kernel
theorem dX4_streetsOf_13 : decode cX4_streetsOf 13 = .ok (.getfield 37, 3) := by decide +kernel
theorem dX4_streetsOf_16 : decode cX4_streetsOf 16 = .ok (.if_icmp .ge 34, 3) := by decide +kernel
theorem dX4_streetsOf_19 : decode cX4_streetsOf 19 = .ok (.aload_n 0, 1) := by decide +kernel
theorem dX4_streetsOf_20 : decode cX4_streetsOf 20 = .ok (.getfield 15, 3) := by decide +kernel
theorem dX4_streetsOf_23 : decode cX4_streetsOf 23 = .ok (.iload 4, 2) := by decide +kernel
theorem dX4_streetsOf_25 : decode cX4_streetsOf 25 = .ok (.aaload, 1) := by decide +kernel
theorem dX4_streetsOf_26 : decode cX4_streetsOf 26 = .ok (.getfield 58, 3) := by decide +kernel
theorem dX4_streetsOf_29 : decode cX4_streetsOf 29 = .ok (.iload_n 1, 1) := by decide +kernel
theorem dX4_streetsOf_30 : decode cX4_streetsOf 30 = .ok (.iload_n 2, 1) := by decide +kernel
theorem dX4_streetsOf_31 : decode cX4_streetsOf 31 = .ok (.invokevirtual 131, 3) := by decide +kernel
theorem dX4_streetsOf_34 : decode cX4_streetsOf 34 = .ok (.ifCond .eq 10, 3) := by decide +kernel
theorem dX4_streetsOf_37 : decode cX4_streetsOf 37 = .ok (.iload_n 3, 1) := by decide +kernel
theorem dX4_streetsOf_38 : decode cX4_streetsOf 38 = .ok (.iconst 1, 1) := by decide +kernel
theorem dX4_streetsOf_39 : decode cX4_streetsOf 39 = .ok (.iload 4, 2) := by decide +kernel
theorem dX4_streetsOf_41 : decode cX4_streetsOf 41 = .ok (.ishl, 1) := by decide +kernel
theorem dX4_streetsOf_42 : decode cX4_streetsOf 42 = .ok (.ior, 1) := by decide +kernel
theorem dX4_streetsOf_43 : decode cX4_streetsOf 43 = .ok (.istore_n 3, 1) := by decide +kernel
theorem dX4_streetsOf_44 : decode cX4_streetsOf 44 = .ok (.iinc 4 1, 3) := by decide +kernel
theorem dX4_streetsOf_47 : decode cX4_streetsOf 47 = .ok (.goto (-37), 3) := by decide +kernel
theorem dX4_streetsOf_50 : decode cX4_streetsOf 50 = .ok (.iload_n 3, 1) := by decide +kernel
theorem dX4_streetsOf_51 : decode cX4_streetsOf 51 = .ok (.ireturn, 1) := by decide +kernel
theorem dX4_distance_0 : decode cX4_distance 0 = .ok (.aload_n 0, 1) := by decide +kernel
theorem dX4_distance_1 : decode cX4_distance 1 = .ok (.iload_n 1, 1) := by decide +kernel
theorem dX4_distance_2 : decode cX4_distance 2 = .ok (.invokevirtual 51, 3) := by decide +kernel
theorem dX4_distance_5 : decode cX4_distance 5 = .ok (.iload_n 2, 1) := by decide +kernel
theorem dX4_distance_6 : decode cX4_distance 6 = .ok (.iload_n 3, 1) := by decide +kernel
theorem dX4_distance_7 : decode cX4_distance 7 = .ok (.invokestatic 55, 3) := by decide +kernel
theorem dX4_distance_10 : decode cX4_distance 10 = .ok (.aload_n 0, 1) := by decide +kernel
theorem dX4_distance_11 : decode cX4_distance 11 = .ok (.getfield 15, 3) := by decide +kernel
theorem dX4_distance_14 : decode cX4_distance 14 = .ok (.iload_n 1, 1) := by decide +kernel
theorem dX4_distance_15 : decode cX4_distance 15 = .ok (.aaload, 1) := by decide +kernel
theorem dX4_distance_16 : decode cX4_distance 16 = .ok (.getfield 58, 3) := by decide +kernel
theorem dX4_distance_19 : decode cX4_distance 19 = .ok (.iload_n 2, 1) := by decide +kernel
theorem dX4_distance_20 : decode cX4_distance 20 = .ok (.iload_n 3, 1) := by decide +kernel
theorem dX4_distance_21 : decode cX4_distance 21 = .ok (.invokevirtual 141, 3) := by decide +kernel
theorem dX4_distance_24 : decode cX4_distance 24 = .ok (.istore 4, 2) := by decide +kernel
theorem dX4_distance_26 : decode cX4_distance 26 = .ok (.iload 4, 2) := by decide +kernel
theorem dX4_distance_28 : decode cX4_distance 28 = .ok (.iconst (-1), 1) := by decide +kernel
theorem dX4_distance_29 : decode cX4_distance 29 = .ok (.if_icmp .ne 7, 3) := by decide +kernel
theorem dX4_distance_32 : decode cX4_distance 32 = .ok (.iconst (-1), 1) := by decide +kernel
theorem dX4_distance_33 : decode cX4_distance 33 = .ok (.goto 10, 3) := by decide +kernel
theorem dX4_distance_36 : decode cX4_distance 36 = .ok (.iload 4, 2) := by decide +kernel
theorem dX4_distance_38 : decode cX4_distance 38 = .ok (.iload_n 2, 1) := by decide +kernel
theorem dX4_distance_39 : decode cX4_distance 39 = .ok (.iload_n 3, 1) := by decide +kernel
theorem dX4_distance_40 : decode cX4_distance 40 = .ok (.invokestatic 144, 3) := by decide +kernel
theorem dX4_distance_43 : decode cX4_distance 43 = .ok (.ireturn, 1) := by decide +kernel
theorem dX4_nearest_0 : decode cX4_nearest 0 = .ok (.aload_n 0, 1) := by decide +kernel
theorem dX4_nearest_1 : decode cX4_nearest 1 = .ok (.iload_n 1, 1) := by decide +kernel
theorem dX4_nearest_2 : decode cX4_nearest 2 = .ok (.invokevirtual 51, 3) := by decide +kernel
theorem dX4_nearest_5 : decode cX4_nearest 5 = .ok (.iload_n 2, 1) := by decide +kernel
theorem dX4_nearest_6 : decode cX4_nearest 6 = .ok (.iload_n 3, 1) := by decide +kernel
theorem dX4_nearest_7 : decode cX4_nearest 7 = .ok (.invokestatic 55, 3) := by decide +kernel
theorem dX4_nearest_10 : decode cX4_nearest 10 = .ok (.aload_n 0, 1) := by decide +kernel
theorem dX4_nearest_11 : decode cX4_nearest 11 = .ok (.getfield 15, 3) := by decide +kernel
theorem dX4_nearest_14 : decode cX4_nearest 14 = .ok (.iload_n 1, 1) := by decide +kernel
theorem dX4_nearest_15 : decode cX4_nearest 15 = .ok (.aaload, 1) := by decide +kernel
theorem dX4_nearest_16 : decode cX4_nearest 16 = .ok (.getfield 58, 3) := by decide +kernel
theorem dX4_nearest_19 : decode cX4_nearest 19 = .ok (.iload_n 2, 1) := by decide +kernel
theorem dX4_nearest_20 : decode cX4_nearest 20 = .ok (.iload_n 3, 1) := by decide +kernel
theorem dX4_nearest_21 : decode cX4_nearest 21 = .ok (.invokevirtual 141, 3) := by decide +kernel
theorem dX4_nearest_24 : decode cX4_nearest 24 = .ok (.ireturn, 1) := by decide +kernel
theorem dX4_walk_0 : decode cX4_walk 0 = .ok (.iload_n 1, 1) := by decide +kernel
theorem dX4_walk_1 : decode cX4_walk 1 = .ok (.iload_n 2, 1) := by decide +kernel
theorem dX4_walk_2 : decode cX4_walk 2 = .ok (.invokestatic 55, 3) := by decide +kernel
theorem dX4_walk_5 : decode cX4_walk 5 = .ok (.iload_n 3, 1) := by decide +kernel
theorem dX4_walk_6 : decode cX4_walk 6 = .ok (.iload 4, 2) := by decide +kernel
theorem dX4_walk_8 : decode cX4_walk 8 = .ok (.invokestatic 55, 3) := by decide +kernel
theorem dX4_walk_11 : decode cX4_walk 11 = .ok (.aload_n 0, 1) := by decide +kernel
theorem dX4_walk_12 : decode cX4_walk 12 = .ok (.getfield 28, 3) := by decide +kernel
theorem dX4_walk_15 : decode cX4_walk 15 = .ok (.aload_n 0, 1) := by decide +kernel
theorem dX4_walk_16 : decode cX4_walk 16 = .ok (.getfield 15, 3) := by decide +kernel
theorem dX4_walk_19 : decode cX4_walk 19 = .ok (.aload_n 0, 1) := by decide +kernel
theorem dX4_walk_20 : decode cX4_walk 20 = .ok (.getfield 37, 3) := by decide +kernel
theorem dX4_walk_23 : decode cX4_walk 23 = .ok (.iload_n 1, 1) := by decide +kernel
theorem dX4_walk_24 : decode cX4_walk 24 = .ok (.iload_n 2, 1) := by decide +kernel
theorem dX4_walk_25 : decode cX4_walk 25 = .ok (.invokestatic 134, 3) := by decide +kernel
theorem dX4_walk_28 : decode cX4_walk 28 = .ok (.invokevirtual 148, 3) := by decide +kernel
theorem dX4_walk_31 : decode cX4_walk 31 = .ok (.pop, 1) := by decide +kernel
theorem dX4_walk_32 : decode cX4_walk 32 = .ok (.aload_n 0, 1) := by decide +kernel
theorem dX4_walk_33 : decode cX4_walk 33 = .ok (.getfield 28, 3) := by decide +kernel
theorem dX4_walk_36 : decode cX4_walk 36 = .ok (.iload_n 3, 1) := by decide +kernel
theorem dX4_walk_37 : decode cX4_walk 37 = .ok (.iload 4, 2) := by decide +kernel
theorem dX4_walk_39 : decode cX4_walk 39 = .ok (.invokestatic 134, 3) := by decide +kernel
theorem dX4_walk_42 : decode cX4_walk 42 = .ok (.invokevirtual 152, 3) := by decide +kernel
theorem dX4_walk_45 : decode cX4_walk 45 = .ok (.ireturn, 1) := by decide +kernel
theorem dX4_walkByRounds_0 : decode cX4_walkByRounds 0 = .ok (.iload_n 1, 1) := by decide +kernel
theorem dX4_walkByRounds_1 : decode cX4_walkByRounds 1 = .ok (.iload_n 2, 1) := by decide +kernel
theorem dX4_walkByRounds_2 : decode cX4_walkByRounds 2 = .ok (.invokestatic 55, 3) := by decide +kernel
theorem dX4_walkByRounds_5 : decode cX4_walkByRounds 5 = .ok (.iload_n 3, 1) := by decide +kernel
theorem dX4_walkByRounds_6 : decode cX4_walkByRounds 6 = .ok (.iload 4, 2) := by decide +kernel
theorem dX4_walkByRounds_8 : decode cX4_walkByRounds 8 = .ok (.invokestatic 55, 3) := by decide +kernel
theorem dX4_walkByRounds_11 : decode cX4_walkByRounds 11 = .ok (.aload_n 0, 1) := by decide +kernel
theorem dX4_walkByRounds_12 : decode cX4_walkByRounds 12 = .ok (.getfield 28, 3) := by decide +kernel
theorem dX4_walkByRounds_15 : decode cX4_walkByRounds 15 = .ok (.aload_n 0, 1) := by decide +kernel
theorem dX4_walkByRounds_16 : decode cX4_walkByRounds 16 = .ok (.getfield 15, 3) := by decide +kernel
theorem dX4_walkByRounds_19 : decode cX4_walkByRounds 19 = .ok (.aload_n 0, 1) := by decide +kernel
theorem dX4_walkByRounds_20 : decode cX4_walkByRounds 20 = .ok (.getfield 37, 3) := by decide +kernel
theorem dX4_walkByRounds_23 : decode cX4_walkByRounds 23 = .ok (.iload_n 3, 1) := by decide +kernel
theorem dX4_walkByRounds_24 : decode cX4_walkByRounds 24 = .ok (.iload 4, 2) := by decide +kernel
theorem dX4_walkByRounds_26 : decode cX4_walkByRounds 26 = .ok (.invokestatic 134, 3) := by decide +kernel
theorem dX4_walkByRounds_29 : decode cX4_walkByRounds 29 = .ok (.invokevirtual 155, 3) := by decide +kernel
theorem dX4_walkByRounds_32 : decode cX4_walkByRounds 32 = .ok (.aload_n 0, 1) := by decide +kernel
theorem dX4_walkByRounds_33 : decode cX4_walkByRounds 33 = .ok (.getfield 28, 3) := by decide +kernel
theorem dX4_walkByRounds_36 : decode cX4_walkByRounds 36 = .ok (.iload_n 1, 1) := by decide +kernel
theorem dX4_walkByRounds_37 : decode cX4_walkByRounds 37 = .ok (.iload_n 2, 1) := by decide +kernel
theorem dX4_walkByRounds_38 : decode cX4_walkByRounds 38 = .ok (.invokestatic 134, 3) := by decide +kernel
theorem dX4_walkByRounds_41 : decode cX4_walkByRounds 41 = .ok (.invokevirtual 152, 3) := by decide +kernel
theorem dX4_walkByRounds_44 : decode cX4_walkByRounds 44 = .ok (.ireturn, 1) := by decide +kernel
theorem dX4_reachable_0 : decode cX4_reachable 0 = .ok (.iload_n 1, 1) := by decide +kernel
theorem dX4_reachable_1 : decode cX4_reachable 1 = .ok (.iload_n 2, 1) := by decide +kernel
theorem dX4_reachable_2 : decode cX4_reachable 2 = .ok (.invokestatic 55, 3) := by decide +kernel
theorem dX4_reachable_5 : decode cX4_reachable 5 = .ok (.aload_n 0, 1) := by decide +kernel
theorem dX4_reachable_6 : decode cX4_reachable 6 = .ok (.getfield 28, 3) := by decide +kernel
theorem dX4_reachable_9 : decode cX4_reachable 9 = .ok (.aload_n 0, 1) := by decide +kernel
theorem dX4_reachable_10 : decode cX4_reachable 10 = .ok (.getfield 15, 3) := by decide +kernel
theorem dX4_reachable_13 : decode cX4_reachable 13 = .ok (.aload_n 0, 1) := by decide +kernel
theorem dX4_reachable_14 : decode cX4_reachable 14 = .ok (.getfield 37, 3) := by decide +kernel
theorem dX4_reachable_17 : decode cX4_reachable 17 = .ok (.iload_n 1, 1) := by decide +kernel
theorem dX4_reachable_18 : decode cX4_reachable 18 = .ok (.iload_n 2, 1) := by decide +kernel
theorem dX4_reachable_19 : decode cX4_reachable 19 = .ok (.invokestatic 134, 3) := by decide +kernel
theorem dX4_reachable_22 : decode cX4_reachable 22 = .ok (.invokevirtual 148, 3) := by decide +kernel
theorem dX4_reachable_25 : decode cX4_reachable 25 = .ok (.ireturn, 1) := by decide +kernel
theorem dX4_checkStreet_0 : decode cX4_checkStreet 0 = .ok (.iload_n 1, 1) := by decide +kernel
theorem dX4_checkStreet_1 : decode cX4_checkStreet 1 = .ok (.ifCond .lt 11, 3) := by decide +kernel
theorem dX4_checkStreet_4 : decode cX4_checkStreet 4 = .ok (.iload_n 1, 1) := by decide +kernel
theorem dX4_checkStreet_5 : decode cX4_checkStreet 5 = .ok (.aload_n 0, 1) := by decide +kernel
theorem dX4_checkStreet_6 : decode cX4_checkStreet 6 = .ok (.getfield 37, 3) := by decide +kernel
theorem dX4_checkStreet_9 : decode cX4_checkStreet 9 = .ok (.if_icmp .lt 13, 3) := by decide +kernel
theorem dX4_checkStreet_12 : decode cX4_checkStreet 12 = .ok (.new 93, 3) := by decide +kernel
theorem dX4_checkStreet_15 : decode cX4_checkStreet 15 = .ok (.dup, 1) := by decide +kernel
theorem dX4_checkStreet_16 : decode cX4_checkStreet 16 = .ok (.ldc 159, 2) := by decide +kernel
theorem dX4_checkStreet_18 : decode cX4_checkStreet 18 = .ok (.invokespecial 97, 3) := by decide +kernel
theorem dX4_checkStreet_21 : decode cX4_checkStreet 21 = .ok (.athrow, 1) := by decide +kernel
theorem dX4_checkStreet_22 : decode cX4_checkStreet 22 = .ok (.return_, 1) := by decide +kernel
theorem dX4_checkSquare_0 : decode cX4_checkSquare 0 = .ok (.iload_n 0, 1) := by decide +kernel
theorem dX4_checkSquare_1 : decode cX4_checkSquare 1 = .ok (.ifCond .lt 19, 3) := by decide +kernel
theorem dX4_checkSquare_4 : decode cX4_checkSquare 4 = .ok (.iload_n 0, 1) := by decide +kernel
theorem dX4_checkSquare_5 : decode cX4_checkSquare 5 = .ok (.bipush 12, 2) := by decide +kernel
theorem dX4_checkSquare_7 : decode cX4_checkSquare 7 = .ok (.if_icmp .ge 13, 3) := by decide +kernel
theorem dX4_checkSquare_10 : decode cX4_checkSquare 10 = .ok (.iload_n 1, 1) := by decide +kernel
theorem dX4_checkSquare_11 : decode cX4_checkSquare 11 = .ok (.ifCond .lt 9, 3) := by decide +kernel
theorem dX4_checkSquare_14 : decode cX4_checkSquare 14 = .ok (.iload_n 1, 1) := by decide +kernel
theorem dX4_checkSquare_15 : decode cX4_checkSquare 15 = .ok (.bipush 12, 2) := by decide +kernel
theorem dX4_checkSquare_17 : decode cX4_checkSquare 17 = .ok (.if_icmp .lt 13, 3) := by decide +kernel
theorem dX4_checkSquare_20 : decode cX4_checkSquare 20 = .ok (.new 93, 3) := by decide +kernel
theorem dX4_checkSquare_23 : decode cX4_checkSquare 23 = .ok (.dup, 1) := by decide +kernel
theorem dX4_checkSquare_24 : decode cX4_checkSquare 24 = .ok (.ldc 161, 2) := by decide +kernel
theorem dX4_checkSquare_26 : decode cX4_checkSquare 26 = .ok (.invokespecial 97, 3) := by decide +kernel
theorem dX4_checkSquare_29 : decode cX4_checkSquare 29 = .ok (.athrow, 1) := by decide +kernel
theorem dX4_checkSquare_30 : decode cX4_checkSquare 30 = .ok (.return_, 1) := by decide +kernel
theorem dX4_checkName_0 : decode cX4_checkName 0 = .ok (.iload_n 0, 1) := by decide +kernel
theorem dX4_checkName_1 : decode cX4_checkName 1 = .ok (.iconst 1, 1) := by decide +kernel
theorem dX4_checkName_2 : decode cX4_checkName 2 = .ok (.if_icmp .lt 8, 3) := by decide +kernel
theorem dX4_checkName_5 : decode cX4_checkName 5 = .ok (.iload_n 0, 1) := by decide +kernel
theorem dX4_checkName_6 : decode cX4_checkName 6 = .ok (.iconst 4, 1) := by decide +kernel
theorem dX4_checkName_7 : decode cX4_checkName 7 = .ok (.if_icmp .le 13, 3) := by decide +kernel
theorem dX4_checkName_10 : decode cX4_checkName 10 = .ok (.new 68, 3) := by decide +kernel
theorem dX4_checkName_13 : decode cX4_checkName 13 = .ok (.dup, 1) := by decide +kernel
theorem dX4_checkName_14 : decode cX4_checkName 14 = .ok (.ldc 163, 2) := by decide +kernel
theorem dX4_checkName_16 : decode cX4_checkName 16 = .ok (.invokespecial 72, 3) := by decide +kernel
theorem dX4_checkName_19 : decode cX4_checkName 19 = .ok (.athrow, 1) := by decide +kernel
theorem dX4_checkName_20 : decode cX4_checkName 20 = .ok (.iconst 0, 1) := by decide +kernel
theorem dX4_checkName_21 : decode cX4_checkName 21 = .ok (.istore_n 2, 1) := by decide +kernel
theorem dX4_checkName_22 : decode cX4_checkName 22 = .ok (.iload_n 2, 1) := by decide +kernel
theorem dX4_checkName_23 : decode cX4_checkName 23 = .ok (.iload_n 0, 1) := by decide +kernel
theorem dX4_checkName_24 : decode cX4_checkName 24 = .ok (.if_icmp .ge 29, 3) := by decide +kernel
theorem dX4_checkName_27 : decode cX4_checkName 27 = .ok (.iload_n 1, 1) := by decide +kernel
theorem dX4_checkName_28 : decode cX4_checkName 28 = .ok (.iload_n 2, 1) := by decide +kernel
theorem dX4_checkName_29 : decode cX4_checkName 29 = .ok (.invokestatic 165, 3) := by decide +kernel
theorem dX4_checkName_32 : decode cX4_checkName 32 = .ok (.bipush 24, 2) := by decide +kernel
theorem dX4_checkName_34 : decode cX4_checkName 34 = .ok (.if_icmp .lt 13, 3) := by decide +kernel
theorem dX4_checkName_37 : decode cX4_checkName 37 = .ok (.new 68, 3) := by decide +kernel
theorem dX4_checkName_40 : decode cX4_checkName 40 = .ok (.dup, 1) := by decide +kernel
theorem dX4_checkName_41 : decode cX4_checkName 41 = .ok (.ldc 95, 2) := by decide +kernel
theorem dX4_checkName_43 : decode cX4_checkName 43 = .ok (.invokespecial 72, 3) := by decide +kernel
theorem dX4_checkName_46 : decode cX4_checkName 46 = .ok (.athrow, 1) := by decide +kernel
theorem dX4_checkName_47 : decode cX4_checkName 47 = .ok (.iinc 2 1, 3) := by decide +kernel
theorem dX4_checkName_50 : decode cX4_checkName 50 = .ok (.goto (-28), 3) := by decide +kernel
theorem dX4_checkName_53 : decode cX4_checkName 53 = .ok (.return_, 1) := by decide +kernel
theorem dX4_wordOf_0 : decode cX4_wordOf 0 = .ok (.iload_n 0, 1) := by decide +kernel
theorem dX4_wordOf_1 : decode cX4_wordOf 1 = .ok (.bipush 8, 2) := by decide +kernel
theorem dX4_wordOf_3 : decode cX4_wordOf 3 = .ok (.iload_n 1, 1) := by decide +kernel
theorem dX4_wordOf_4 : decode cX4_wordOf 4 = .ok (.imul, 1) := by decide +kernel
theorem dX4_wordOf_5 : decode cX4_wordOf 5 = .ok (.iushr, 1) := by decide +kernel
theorem dX4_wordOf_6 : decode cX4_wordOf 6 = .ok (.sipush 255, 3) := by decide +kernel
theorem dX4_wordOf_9 : decode cX4_wordOf 9 = .ok (.iand, 1) := by decide +kernel
theorem dX4_wordOf_10 : decode cX4_wordOf 10 = .ok (.ireturn, 1) := by decide +kernel
theorem dX4_squareOf_0 : decode cX4_squareOf 0 = .ok (.bipush 12, 2) := by decide +kernel
theorem dX4_squareOf_2 : decode cX4_squareOf 2 = .ok (.iload_n 0, 1) := by decide +kernel
theorem dX4_squareOf_3 : decode cX4_squareOf 3 = .ok (.imul, 1) := by decide +kernel
theorem dX4_squareOf_4 : decode cX4_squareOf 4 = .ok (.iload_n 1, 1) := by decide +kernel
theorem dX4_squareOf_5 : decode cX4_squareOf 5 = .ok (.iadd, 1) := by decide +kernel
theorem dX4_squareOf_6 : decode cX4_squareOf 6 = .ok (.ireturn, 1) := by decide +kernel
theorem dX4_apart_0 : decode cX4_apart 0 = .ok (.iload_n 0, 1) := by decide +kernel
theorem dX4_apart_1 : decode cX4_apart 1 = .ok (.bipush 12, 2) := by decide +kernel
theorem dX4_apart_3 : decode cX4_apart 3 = .ok (.idiv, 1) := by decide +kernel
theorem dX4_apart_4 : decode cX4_apart 4 = .ok (.iload_n 1, 1) := by decide +kernel
theorem dX4_apart_5 : decode cX4_apart 5 = .ok (.isub, 1) := by decide +kernel
theorem dX4_apart_6 : decode cX4_apart 6 = .ok (.invokestatic 168, 3) := by decide +kernel
theorem dX4_apart_9 : decode cX4_apart 9 = .ok (.iload_n 0, 1) := by decide +kernel
theorem dX4_apart_10 : decode cX4_apart 10 = .ok (.bipush 12, 2) := by decide +kernel
theorem dX4_apart_12 : decode cX4_apart 12 = .ok (.irem, 1) := by decide +kernel
theorem dX4_apart_13 : decode cX4_apart 13 = .ok (.iload_n 2, 1) := by decide +kernel
theorem dX4_apart_14 : decode cX4_apart 14 = .ok (.isub, 1) := by decide +kernel
theorem dX4_apart_15 : decode cX4_apart 15 = .ok (.invokestatic 168, 3) := by decide +kernel
theorem dX4_apart_18 : decode cX4_apart 18 = .ok (.invokestatic 173, 3) := by decide +kernel
theorem dX4_apart_21 : decode cX4_apart 21 = .ok (.ireturn, 1) := by decide +kernel
theorem dX4_countAhead_0 : decode cX4_countAhead 0 = .ok (.iconst 0, 1) := by decide +kernel
theorem dX4_countAhead_1 : decode cX4_countAhead 1 = .ok (.istore_n 2, 1) := by decide +kernel
theorem dX4_countAhead_2 : decode cX4_countAhead 2 = .ok (.iconst 0, 1) := by decide +kernel
theorem dX4_countAhead_3 : decode cX4_countAhead 3 = .ok (.istore_n 3, 1) := by decide +kernel
theorem dX4_countAhead_4 : decode cX4_countAhead 4 = .ok (.iload_n 3, 1) := by decide +kernel
theorem dX4_countAhead_5 : decode cX4_countAhead 5 = .ok (.aload_n 0, 1) := by decide +kernel
theorem dX4_countAhead_6 : decode cX4_countAhead 6 = .ok (.getfield 37, 3) := by decide +kernel
theorem dX4_countAhead_9 : decode cX4_countAhead 9 = .ok (.if_icmp .ge 21, 3) := by decide +kernel
theorem dX4_countAhead_12 : decode cX4_countAhead 12 = .ok (.aload_n 0, 1) := by decide +kernel
theorem dX4_countAhead_13 : decode cX4_countAhead 13 = .ok (.iload_n 3, 1) := by decide +kernel
theorem dX4_countAhead_14 : decode cX4_countAhead 14 = .ok (.iload_n 1, 1) := by decide +kernel
theorem dX4_countAhead_15 : decode cX4_countAhead 15 = .ok (.invokevirtual 176, 3) := by decide +kernel
theorem dX4_countAhead_18 : decode cX4_countAhead 18 = .ok (.ifCond .ge 6, 3) := by decide +kernel
theorem dX4_countAhead_21 : decode cX4_countAhead 21 = .ok (.iinc 2 1, 3) := by decide +kernel
theorem dX4_countAhead_24 : decode cX4_countAhead 24 = .ok (.iinc 3 1, 3) := by decide +kernel
theorem dX4_countAhead_27 : decode cX4_countAhead 27 = .ok (.goto (-23), 3) := by decide +kernel
theorem dX4_countAhead_30 : decode cX4_countAhead 30 = .ok (.iload_n 2, 1) := by decide +kernel
theorem dX4_countAhead_31 : decode cX4_countAhead 31 = .ok (.ireturn, 1) := by decide +kernel
theorem dX4_indexOrder_0 : decode cX4_indexOrder 0 = .ok (.aload_n 0, 1) := by decide +kernel
theorem dX4_indexOrder_1 : decode cX4_indexOrder 1 = .ok (.iload_n 1, 1) := by decide +kernel
theorem dX4_indexOrder_2 : decode cX4_indexOrder 2 = .ok (.iload_n 2, 1) := by decide +kernel
theorem dX4_indexOrder_3 : decode cX4_indexOrder 3 = .ok (.invokevirtual 106, 3) := by decide +kernel
theorem dX4_indexOrder_6 : decode cX4_indexOrder 6 = .ok (.istore_n 3, 1) := by decide +kernel
theorem dX4_indexOrder_7 : decode cX4_indexOrder 7 = .ok (.iload_n 3, 1) := by decide +kernel
theorem dX4_indexOrder_8 : decode cX4_indexOrder 8 = .ok (.ifCond .ne 19, 3) := by decide +kernel
theorem dX4_indexOrder_11 : decode cX4_indexOrder 11 = .ok (.aload_n 0, 1) := by decide +kernel
theorem dX4_indexOrder_12 : decode cX4_indexOrder 12 = .ok (.getfield 15, 3) := by decide +kernel
theorem dX4_indexOrder_15 : decode cX4_indexOrder 15 = .ok (.iload_n 1, 1) := by decide +kernel
theorem dX4_indexOrder_16 : decode cX4_indexOrder 16 = .ok (.aaload, 1) := by decide +kernel
theorem dX4_indexOrder_17 : decode cX4_indexOrder 17 = .ok (.aload_n 0, 1) := by decide +kernel
theorem dX4_indexOrder_18 : decode cX4_indexOrder 18 = .ok (.getfield 15, 3) := by decide +kernel
theorem dX4_indexOrder_21 : decode cX4_indexOrder 21 = .ok (.iload_n 2, 1) := by decide +kernel
theorem dX4_indexOrder_22 : decode cX4_indexOrder 22 = .ok (.aaload, 1) := by decide +kernel
theorem dX4_indexOrder_23 : decode cX4_indexOrder 23 = .ok (.invokestatic 179, 3) := by decide +kernel
theorem dX4_indexOrder_26 : decode cX4_indexOrder 26 = .ok (.istore_n 3, 1) := by decide +kernel
theorem dX4_indexOrder_27 : decode cX4_indexOrder 27 = .ok (.iload_n 3, 1) := by decide +kernel
theorem dX4_indexOrder_28 : decode cX4_indexOrder 28 = .ok (.ifCond .ne 12, 3) := by decide +kernel
theorem dX4_indexOrder_31 : decode cX4_indexOrder 31 = .ok (.iload_n 1, 1) := by decide +kernel
theorem dX4_indexOrder_32 : decode cX4_indexOrder 32 = .ok (.iload_n 2, 1) := by decide +kernel
theorem dX4_indexOrder_33 : decode cX4_indexOrder 33 = .ok (.isub, 1) := by decide +kernel
theorem dX4_indexOrder_34 : decode cX4_indexOrder 34 = .ok (.invokestatic 183, 3) := by decide +kernel
theorem dX4_indexOrder_37 : decode cX4_indexOrder 37 = .ok (.goto 4, 3) := by decide +kernel
theorem dX4_indexOrder_40 : decode cX4_indexOrder 40 = .ok (.iload_n 3, 1) := by decide +kernel
theorem dX4_indexOrder_41 : decode cX4_indexOrder 41 = .ok (.ireturn, 1) := by decide +kernel
theorem dX4_keyOrder_0 : decode cX4_keyOrder 0 = .ok (.aload_n 0, 1) := by decide +kernel
theorem dX4_keyOrder_1 : decode cX4_keyOrder 1 = .ok (.getfield 15, 3) := by decide +kernel
theorem dX4_keyOrder_4 : decode cX4_keyOrder 4 = .ok (.iload_n 1, 1) := by decide +kernel
theorem dX4_keyOrder_5 : decode cX4_keyOrder 5 = .ok (.aaload, 1) := by decide +kernel
theorem dX4_keyOrder_6 : decode cX4_keyOrder 6 = .ok (.aload_n 0, 1) := by decide +kernel
theorem dX4_keyOrder_7 : decode cX4_keyOrder 7 = .ok (.getfield 9, 3) := by decide +kernel
theorem dX4_keyOrder_10 : decode cX4_keyOrder 10 = .ok (.aload_n 0, 1) := by decide +kernel
theorem dX4_keyOrder_11 : decode cX4_keyOrder 11 = .ok (.getfield 19, 3) := by decide +kernel
theorem dX4_keyOrder_14 : decode cX4_keyOrder 14 = .ok (.invokevirtual 186, 3) := by decide +kernel
theorem dX4_keyOrder_17 : decode cX4_keyOrder 17 = .ok (.istore_n 3, 1) := by decide +kernel
theorem dX4_keyOrder_18 : decode cX4_keyOrder 18 = .ok (.aload_n 0, 1) := by decide +kernel
theorem dX4_keyOrder_19 : decode cX4_keyOrder 19 = .ok (.getfield 15, 3) := by decide +kernel
theorem dX4_keyOrder_22 : decode cX4_keyOrder 22 = .ok (.iload_n 2, 1) := by decide +kernel
theorem dX4_keyOrder_23 : decode cX4_keyOrder 23 = .ok (.aaload, 1) := by decide +kernel
theorem dX4_keyOrder_24 : decode cX4_keyOrder 24 = .ok (.aload_n 0, 1) := by decide +kernel
theorem dX4_keyOrder_25 : decode cX4_keyOrder 25 = .ok (.getfield 9, 3) := by decide +kernel
theorem dX4_keyOrder_28 : decode cX4_keyOrder 28 = .ok (.aload_n 0, 1) := by decide +kernel
theorem dX4_keyOrder_29 : decode cX4_keyOrder 29 = .ok (.getfield 22, 3) := by decide +kernel
theorem dX4_keyOrder_32 : decode cX4_keyOrder 32 = .ok (.invokevirtual 186, 3) := by decide +kernel
theorem dX4_keyOrder_35 : decode cX4_keyOrder 35 = .ok (.istore 4, 2) := by decide +kernel
theorem dX4_keyOrder_37 : decode cX4_keyOrder 37 = .ok (.aload_n 0, 1) := by decide +kernel
theorem dX4_keyOrder_38 : decode cX4_keyOrder 38 = .ok (.getfield 19, 3) := by decide +kernel
theorem dX4_keyOrder_41 : decode cX4_keyOrder 41 = .ok (.iload_n 3, 1) := by decide +kernel
theorem dX4_keyOrder_42 : decode cX4_keyOrder 42 = .ok (.aload_n 0, 1) := by decide +kernel
theorem dX4_keyOrder_43 : decode cX4_keyOrder 43 = .ok (.getfield 22, 3) := by decide +kernel
theorem dX4_keyOrder_46 : decode cX4_keyOrder 46 = .ok (.iload 4, 2) := by decide +kernel
theorem dX4_keyOrder_48 : decode cX4_keyOrder 48 = .ok (.invokestatic 190, 3) := by decide +kernel
theorem dX4_keyOrder_51 : decode cX4_keyOrder 51 = .ok (.ireturn, 1) := by decide +kernel
theorem dX4_nameOrder_0 : decode cX4_nameOrder 0 = .ok (.aload_n 0, 1) := by decide +kernel
theorem dX4_nameOrder_1 : decode cX4_nameOrder 1 = .ok (.getfield 194, 3) := by decide +kernel
theorem dX4_nameOrder_4 : decode cX4_nameOrder 4 = .ok (.aload_n 0, 1) := by decide +kernel
theorem dX4_nameOrder_5 : decode cX4_nameOrder 5 = .ok (.getfield 197, 3) := by decide +kernel
theorem dX4_nameOrder_8 : decode cX4_nameOrder 8 = .ok (.aload_n 1, 1) := by decide +kernel
theorem dX4_nameOrder_9 : decode cX4_nameOrder 9 = .ok (.getfield 194, 3) := by decide +kernel
theorem dX4_nameOrder_12 : decode cX4_nameOrder 12 = .ok (.aload_n 1, 1) := by decide +kernel
theorem dX4_nameOrder_13 : decode cX4_nameOrder 13 = .ok (.getfield 197, 3) := by decide +kernel
theorem dX4_nameOrder_16 : decode cX4_nameOrder 16 = .ok (.invokestatic 190, 3) := by decide +kernel
theorem dX4_nameOrder_19 : decode cX4_nameOrder 19 = .ok (.ireturn, 1) := by decide +kernel
theorem dX4_wordsOrder_0 : decode cX4_wordsOrder 0 = .ok (.iload_n 1, 1) := by decide +kernel
theorem dX4_wordsOrder_1 : decode cX4_wordsOrder 1 = .ok (.iload_n 3, 1) := by decide +kernel
theorem dX4_wordsOrder_2 : decode cX4_wordsOrder 2 = .ok (.invokestatic 200, 3) := by decide +kernel
theorem dX4_wordsOrder_5 : decode cX4_wordsOrder 5 = .ok (.istore 4, 2) := by decide +kernel
theorem dX4_wordsOrder_7 : decode cX4_wordsOrder 7 = .ok (.iconst 0, 1) := by decide +kernel
theorem dX4_wordsOrder_8 : decode cX4_wordsOrder 8 = .ok (.istore 5, 2) := by decide +kernel
theorem dX4_wordsOrder_10 : decode cX4_wordsOrder 10 = .ok (.iload 5, 2) := by decide +kernel
theorem dX4_wordsOrder_12 : decode cX4_wordsOrder 12 = .ok (.iload 4, 2) := by decide +kernel
theorem dX4_wordsOrder_14 : decode cX4_wordsOrder 14 = .ok (.if_icmp .ge 44, 3) := by decide +kernel
theorem dX4_wordsOrder_17 : decode cX4_wordsOrder 17 = .ok (.getstatic 203, 3) := by decide +kernel
theorem dX4_wordsOrder_20 : decode cX4_wordsOrder 20 = .ok (.aload_n 0, 1) := by decide +kernel
theorem dX4_wordsOrder_21 : decode cX4_wordsOrder 21 = .ok (.iload 5, 2) := by decide +kernel
theorem dX4_wordsOrder_23 : decode cX4_wordsOrder 23 = .ok (.iaload, 1) := by decide +kernel
theorem dX4_wordsOrder_24 : decode cX4_wordsOrder 24 = .ok (.aaload, 1) := by decide +kernel
theorem dX4_wordsOrder_25 : decode cX4_wordsOrder 25 = .ok (.getfield 209, 3) := by decide +kernel
theorem dX4_wordsOrder_28 : decode cX4_wordsOrder 28 = .ok (.getstatic 203, 3) := by decide +kernel
theorem dX4_wordsOrder_31 : decode cX4_wordsOrder 31 = .ok (.aload_n 2, 1) := by decide +kernel
theorem dX4_wordsOrder_32 : decode cX4_wordsOrder 32 = .ok (.iload 5, 2) := by decide +kernel
theorem dX4_wordsOrder_34 : decode cX4_wordsOrder 34 = .ok (.iaload, 1) := by decide +kernel
theorem dX4_wordsOrder_35 : decode cX4_wordsOrder 35 = .ok (.aaload, 1) := by decide +kernel
theorem dX4_wordsOrder_36 : decode cX4_wordsOrder 36 = .ok (.getfield 209, 3) := by decide +kernel
theorem dX4_wordsOrder_39 : decode cX4_wordsOrder 39 = .ok (.invokestatic 213, 3) := by decide +kernel
theorem dX4_wordsOrder_42 : decode cX4_wordsOrder 42 = .ok (.istore 6, 2) := by decide +kernel
theorem dX4_wordsOrder_44 : decode cX4_wordsOrder 44 = .ok (.iload 6, 2) := by decide +kernel
theorem dX4_wordsOrder_46 : decode cX4_wordsOrder 46 = .ok (.ifCond .eq 6, 3) := by decide +kernel
theorem dX4_wordsOrder_49 : decode cX4_wordsOrder 49 = .ok (.iload 6, 2) := by decide +kernel
theorem dX4_wordsOrder_51 : decode cX4_wordsOrder 51 = .ok (.ireturn, 1) := by decide +kernel
theorem dX4_wordsOrder_52 : decode cX4_wordsOrder 52 = .ok (.iinc 5 1, 3) := by decide +kernel
theorem dX4_wordsOrder_55 : decode cX4_wordsOrder 55 = .ok (.goto (-45), 3) := by decide +kernel
theorem dX4_wordsOrder_58 : decode cX4_wordsOrder 58 = .ok (.iload_n 1, 1) := by decide +kernel
theorem dX4_wordsOrder_59 : decode cX4_wordsOrder 59 = .ok (.iload_n 3, 1) := by decide +kernel
theorem dX4_wordsOrder_60 : decode cX4_wordsOrder 60 = .ok (.isub, 1) := by decide +kernel
theorem dX4_wordsOrder_61 : decode cX4_wordsOrder 61 = .ok (.invokestatic 183, 3) := by decide +kernel
theorem dX4_wordsOrder_64 : decode cX4_wordsOrder 64 = .ok (.ireturn, 1) := by decide +kernel
theorem dX4_lettersOrder_0 : decode cX4_lettersOrder 0 = .ok (.aload_n 0, 1) := by decide +kernel
theorem dX4_lettersOrder_1 : decode cX4_lettersOrder 1 = .ok (.invokevirtual 217, 3) := by decide +kernel
theorem dX4_lettersOrder_4 : decode cX4_lettersOrder 4 = .ok (.aload_n 1, 1) := by decide +kernel
theorem dX4_lettersOrder_5 : decode cX4_lettersOrder 5 = .ok (.invokevirtual 217, 3) := by decide +kernel
theorem dX4_lettersOrder_8 : decode cX4_lettersOrder 8 = .ok (.invokestatic 200, 3) := by decide +kernel
theorem dX4_lettersOrder_11 : decode cX4_lettersOrder 11 = .ok (.istore_n 2, 1) := by decide +kernel
theorem dX4_lettersOrder_12 : decode cX4_lettersOrder 12 = .ok (.iconst 0, 1) := by decide +kernel
theorem dX4_lettersOrder_13 : decode cX4_lettersOrder 13 = .ok (.istore_n 3, 1) := by decide +kernel
theorem dX4_lettersOrder_14 : decode cX4_lettersOrder 14 = .ok (.iload_n 3, 1) := by decide +kernel
theorem dX4_lettersOrder_15 : decode cX4_lettersOrder 15 = .ok (.iload_n 2, 1) := by decide +kernel
theorem dX4_lettersOrder_16 : decode cX4_lettersOrder 16 = .ok (.if_icmp .ge 41, 3) := by decide +kernel
theorem dX4_lettersOrder_19 : decode cX4_lettersOrder 19 = .ok (.aload_n 0, 1) := by decide +kernel
theorem dX4_lettersOrder_20 : decode cX4_lettersOrder 20 = .ok (.iload_n 3, 1) := by decide +kernel
theorem dX4_lettersOrder_21 : decode cX4_lettersOrder 21 = .ok (.invokevirtual 220, 3) := by decide +kernel
theorem dX4_lettersOrder_24 : decode cX4_lettersOrder 24 = .ok (.aload_n 1, 1) := by decide +kernel
theorem dX4_lettersOrder_25 : decode cX4_lettersOrder 25 = .ok (.iload_n 3, 1) := by decide +kernel
theorem dX4_lettersOrder_26 : decode cX4_lettersOrder 26 = .ok (.invokevirtual 220, 3) := by decide +kernel
theorem dX4_lettersOrder_29 : decode cX4_lettersOrder 29 = .ok (.if_icmp .eq 22, 3) := by decide +kernel
theorem dX4_lettersOrder_32 : decode cX4_lettersOrder 32 = .ok (.aload_n 0, 1) := by decide +kernel
theorem dX4_lettersOrder_33 : decode cX4_lettersOrder 33 = .ok (.iload_n 3, 1) := by decide +kernel
theorem dX4_lettersOrder_34 : decode cX4_lettersOrder 34 = .ok (.invokevirtual 220, 3) := by decide +kernel
theorem dX4_lettersOrder_37 : decode cX4_lettersOrder 37 = .ok (.aload_n 1, 1) := by decide +kernel
theorem dX4_lettersOrder_38 : decode cX4_lettersOrder 38 = .ok (.iload_n 3, 1) := by decide +kernel
theorem dX4_lettersOrder_39 : decode cX4_lettersOrder 39 = .ok (.invokevirtual 220, 3) := by decide +kernel
theorem dX4_lettersOrder_42 : decode cX4_lettersOrder 42 = .ok (.if_icmp .ge 7, 3) := by decide +kernel
theorem dX4_lettersOrder_45 : decode cX4_lettersOrder 45 = .ok (.iconst (-1), 1) := by decide +kernel
theorem dX4_lettersOrder_46 : decode cX4_lettersOrder 46 = .ok (.goto 4, 3) := by decide +kernel
theorem dX4_lettersOrder_49 : decode cX4_lettersOrder 49 = .ok (.iconst 1, 1) := by decide +kernel
theorem dX4_lettersOrder_50 : decode cX4_lettersOrder 50 = .ok (.ireturn, 1) := by decide +kernel
theorem dX4_lettersOrder_51 : decode cX4_lettersOrder 51 = .ok (.iinc 3 1, 3) := by decide +kernel
theorem dX4_lettersOrder_54 : decode cX4_lettersOrder 54 = .ok (.goto (-40), 3) := by decide +kernel
theorem dX4_lettersOrder_57 : decode cX4_lettersOrder 57 = .ok (.aload_n 0, 1) := by decide +kernel
theorem dX4_lettersOrder_58 : decode cX4_lettersOrder 58 = .ok (.invokevirtual 217, 3) := by decide +kernel
theorem dX4_lettersOrder_61 : decode cX4_lettersOrder 61 = .ok (.aload_n 1, 1) := by decide +kernel
theorem dX4_lettersOrder_62 : decode cX4_lettersOrder 62 = .ok (.invokevirtual 217, 3) := by decide +kernel
theorem dX4_lettersOrder_65 : decode cX4_lettersOrder 65 = .ok (.isub, 1) := by decide +kernel
theorem dX4_lettersOrder_66 : decode cX4_lettersOrder 66 = .ok (.invokestatic 183, 3) := by decide +kernel
theorem dX4_lettersOrder_69 : decode cX4_lettersOrder 69 = .ok (.ireturn, 1) := by decide +kernel
theorem dX4_sign_0 : decode cX4_sign 0 = .ok (.iload_n 0, 1) := by decide +kernel
theorem dX4_sign_1 : decode cX4_sign 1 = .ok (.ifCond .ne 5, 3) := by decide +kernel
theorem dX4_sign_4 : decode cX4_sign 4 = .ok (.iconst 0, 1) := by decide +kernel
theorem dX4_sign_5 : decode cX4_sign 5 = .ok (.ireturn, 1) := by decide +kernel
theorem dX4_sign_6 : decode cX4_sign 6 = .ok (.iload_n 0, 1) := by decide +kernel
theorem dX4_sign_7 : decode cX4_sign 7 = .ok (.ifCond .ge 7, 3) := by decide +kernel
theorem dX4_sign_10 : decode cX4_sign 10 = .ok (.iconst (-1), 1) := by decide +kernel
theorem dX4_sign_11 : decode cX4_sign 11 = .ok (.goto 4, 3) := by decide +kernel
theorem dX4_sign_14 : decode cX4_sign 14 = .ok (.iconst 1, 1) := by decide +kernel
theorem dX4_sign_15 : decode cX4_sign 15 = .ok (.ireturn, 1) := by decide +kernel
theorem dX4_lineOf_0 : decode cX4_lineOf 0 = .ok (.new 115, 3) := by decide +kernel
theorem dX4_lineOf_3 : decode cX4_lineOf 3 = .ok (.dup, 1) := by decide +kernel
theorem dX4_lineOf_4 : decode cX4_lineOf 4 = .ok (.invokespecial 221, 3) := by decide +kernel
theorem dX4_lineOf_7 : decode cX4_lineOf 7 = .ok (.astore_n 2, 1) := by decide +kernel
theorem dX4_lineOf_8 : decode cX4_lineOf 8 = .ok (.aload_n 0, 1) := by decide +kernel
theorem dX4_lineOf_9 : decode cX4_lineOf 9 = .ok (.aload_n 2, 1) := by decide +kernel
theorem dX4_lineOf_10 : decode cX4_lineOf 10 = .ok (.aload_n 1, 1) := by decide +kernel
theorem dX4_lineOf_11 : decode cX4_lineOf 11 = .ok (.invokevirtual 222, 3) := by decide +kernel
theorem dX4_lineOf_14 : decode cX4_lineOf 14 = .ok (.aload_n 1, 1) := by decide +kernel
theorem dX4_lineOf_15 : decode cX4_lineOf 15 = .ok (.getfield 58, 3) := by decide +kernel
theorem dX4_lineOf_18 : decode cX4_lineOf 18 = .ok (.getfield 81, 3) := by decide +kernel
theorem dX4_lineOf_21 : decode cX4_lineOf 21 = .ok (.ifCond .le 18, 3) := by decide +kernel
theorem dX4_lineOf_24 : decode cX4_lineOf 24 = .ok (.aload_n 2, 1) := by decide +kernel
theorem dX4_lineOf_25 : decode cX4_lineOf 25 = .ok (.bipush 58, 2) := by decide +kernel
theorem dX4_lineOf_27 : decode cX4_lineOf 27 = .ok (.invokevirtual 226, 3) := by decide +kernel
theorem dX4_lineOf_30 : decode cX4_lineOf 30 = .ok (.pop, 1) := by decide +kernel
theorem dX4_lineOf_31 : decode cX4_lineOf 31 = .ok (.aload_n 2, 1) := by decide +kernel
theorem dX4_lineOf_32 : decode cX4_lineOf 32 = .ok (.aload_n 1, 1) := by decide +kernel
theorem dX4_lineOf_33 : decode cX4_lineOf 33 = .ok (.getfield 58, 3) := by decide +kernel
theorem dX4_lineOf_36 : decode cX4_lineOf 36 = .ok (.invokestatic 230, 3) := by decide +kernel
theorem dX4_lineOf_39 : decode cX4_lineOf 39 = .ok (.aload_n 2, 1) := by decide +kernel
theorem dX4_lineOf_40 : decode cX4_lineOf 40 = .ok (.areturn, 1) := by decide +kernel
theorem dX4_appendName_0 : decode cX4_appendName 0 = .ok (.aload_n 2, 1) := by decide +kernel
theorem dX4_appendName_1 : decode cX4_appendName 1 = .ok (.aload_n 0, 1) := by decide +kernel
theorem dX4_appendName_2 : decode cX4_appendName 2 = .ok (.getfield 9, 3) := by decide +kernel
theorem dX4_appendName_5 : decode cX4_appendName 5 = .ok (.invokevirtual 234, 3) := by decide +kernel
theorem dX4_appendName_8 : decode cX4_appendName 8 = .ok (.istore_n 3, 1) := by decide +kernel
theorem dX4_appendName_9 : decode cX4_appendName 9 = .ok (.aload_n 2, 1) := by decide +kernel
theorem dX4_appendName_10 : decode cX4_appendName 10 = .ok (.getfield 197, 3) := by decide +kernel
theorem dX4_appendName_13 : decode cX4_appendName 13 = .ok (.iload_n 3, 1) := by decide +kernel
theorem dX4_appendName_14 : decode cX4_appendName 14 = .ok (.isub, 1) := by decide +kernel
theorem dX4_appendName_15 : decode cX4_appendName 15 = .ok (.istore 4, 2) := by decide +kernel
theorem dX4_appendName_17 : decode cX4_appendName 17 = .ok (.aload_n 0, 1) := by decide +kernel
theorem dX4_appendName_18 : decode cX4_appendName 18 = .ok (.aload_n 1, 1) := by decide +kernel
theorem dX4_appendName_19 : decode cX4_appendName 19 = .ok (.aload_n 2, 1) := by decide +kernel
theorem dX4_appendName_20 : decode cX4_appendName 20 = .ok (.iconst 0, 1) := by decide +kernel
theorem dX4_appendName_21 : decode cX4_appendName 21 = .ok (.invokevirtual 238, 3) := by decide +kernel
theorem dX4_appendName_24 : decode cX4_appendName 24 = .ok (.iload 4, 2) := by decide +kernel
theorem dX4_appendName_26 : decode cX4_appendName 26 = .ok (.ifCond .le 14, 3) := by decide +kernel
theorem dX4_appendName_29 : decode cX4_appendName 29 = .ok (.iload_n 3, 1) := by decide +kernel
theorem dX4_appendName_30 : decode cX4_appendName 30 = .ok (.ifCond .le 10, 3) := by decide +kernel
theorem dX4_appendName_33 : decode cX4_appendName 33 = .ok (.aload_n 1, 1) := by decide +kernel
theorem dX4_appendName_34 : decode cX4_appendName 34 = .ok (.ldc 242, 2) := by decide +kernel
theorem dX4_appendName_36 : decode cX4_appendName 36 = .ok (.invokevirtual 244, 3) := by decide +kernel
theorem dX4_appendName_39 : decode cX4_appendName 39 = .ok (.pop, 1) := by decide +kernel
theorem dX4_appendName_40 : decode cX4_appendName 40 = .ok (.aload_n 0, 1) := by decide +kernel
theorem dX4_appendName_41 : decode cX4_appendName 41 = .ok (.aload_n 1, 1) := by decide +kernel
theorem dX4_appendName_42 : decode cX4_appendName 42 = .ok (.aload_n 2, 1) := by decide +kernel
theorem dX4_appendName_43 : decode cX4_appendName 43 = .ok (.iconst 1, 1) := by decide +kernel
theorem dX4_appendName_44 : decode cX4_appendName 44 = .ok (.invokevirtual 238, 3) := by decide +kernel
theorem dX4_appendName_47 : decode cX4_appendName 47 = .ok (.return_, 1) := by decide +kernel
theorem dX4_appendWords_0 : decode cX4_appendWords 0 = .ok (.iconst 1, 1) := by decide +kernel
theorem dX4_appendWords_1 : decode cX4_appendWords 1 = .ok (.istore 4, 2) := by decide +kernel
theorem dX4_appendWords_3 : decode cX4_appendWords 3 = .ok (.iconst 0, 1) := by decide +kernel
theorem dX4_appendWords_4 : decode cX4_appendWords 4 = .ok (.istore 5, 2) := by decide +kernel
theorem dX4_appendWords_6 : decode cX4_appendWords 6 = .ok (.iload 5, 2) := by decide +kernel
theorem dX4_appendWords_8 : decode cX4_appendWords 8 = .ok (.aload_n 2, 1) := by decide +kernel
theorem dX4_appendWords_9 : decode cX4_appendWords 9 = .ok (.getfield 197, 3) := by decide +kernel
theorem dX4_appendWords_12 : decode cX4_appendWords 12 = .ok (.if_icmp .ge 67, 3) := by decide +kernel
theorem dX4_appendWords_15 : decode cX4_appendWords 15 = .ok (.aload_n 2, 1) := by decide +kernel
theorem dX4_appendWords_16 : decode cX4_appendWords 16 = .ok (.getfield 194, 3) := by decide +kernel
theorem dX4_appendWords_19 : decode cX4_appendWords 19 = .ok (.iload 5, 2) := by decide +kernel
theorem dX4_appendWords_21 : decode cX4_appendWords 21 = .ok (.iaload, 1) := by decide +kernel
theorem dX4_appendWords_22 : decode cX4_appendWords 22 = .ok (.istore 6, 2) := by decide +kernel
theorem dX4_appendWords_24 : decode cX4_appendWords 24 = .ok (.aload_n 0, 1) := by decide +kernel
theorem dX4_appendWords_25 : decode cX4_appendWords 25 = .ok (.getfield 9, 3) := by decide +kernel
theorem dX4_appendWords_28 : decode cX4_appendWords 28 = .ok (.iload 6, 2) := by decide +kernel
theorem dX4_appendWords_30 : decode cX4_appendWords 30 = .ok (.iaload, 1) := by decide +kernel
theorem dX4_appendWords_31 : decode cX4_appendWords 31 = .ok (.iconst 2, 1) := by decide +kernel
theorem dX4_appendWords_32 : decode cX4_appendWords 32 = .ok (.if_icmp .ne 7, 3) := by decide +kernel
theorem dX4_appendWords_35 : decode cX4_appendWords 35 = .ok (.iconst 1, 1) := by decide +kernel
theorem dX4_appendWords_36 : decode cX4_appendWords 36 = .ok (.goto 4, 3) := by decide +kernel
theorem dX4_appendWords_39 : decode cX4_appendWords 39 = .ok (.iconst 0, 1) := by decide +kernel
theorem dX4_appendWords_40 : decode cX4_appendWords 40 = .ok (.iload_n 3, 1) := by decide +kernel
theorem dX4_appendWords_41 : decode cX4_appendWords 41 = .ok (.if_icmp .ne 32, 3) := by decide +kernel
theorem dX4_appendWords_44 : decode cX4_appendWords 44 = .ok (.iload 4, 2) := by decide +kernel
theorem dX4_appendWords_46 : decode cX4_appendWords 46 = .ok (.ifCond .ne 10, 3) := by decide +kernel
theorem dX4_appendWords_49 : decode cX4_appendWords 49 = .ok (.aload_n 1, 1) := by decide +kernel
theorem dX4_appendWords_50 : decode cX4_appendWords 50 = .ok (.bipush 32, 2) := by decide +kernel
theorem dX4_appendWords_52 : decode cX4_appendWords 52 = .ok (.invokevirtual 226, 3) := by decide +kernel
theorem dX4_appendWords_55 : decode cX4_appendWords 55 = .ok (.pop, 1) := by decide +kernel
theorem dX4_appendWords_56 : decode cX4_appendWords 56 = .ok (.aload_n 1, 1) := by decide +kernel
theorem dX4_appendWords_57 : decode cX4_appendWords 57 = .ok (.getstatic 203, 3) := by decide +kernel
theorem dX4_appendWords_60 : decode cX4_appendWords 60 = .ok (.iload 6, 2) := by decide +kernel
theorem dX4_appendWords_62 : decode cX4_appendWords 62 = .ok (.aaload, 1) := by decide +kernel
theorem dX4_appendWords_63 : decode cX4_appendWords 63 = .ok (.getfield 209, 3) := by decide +kernel
theorem dX4_appendWords_66 : decode cX4_appendWords 66 = .ok (.invokevirtual 244, 3) := by decide +kernel
theorem dX4_appendWords_69 : decode cX4_appendWords 69 = .ok (.pop, 1) := by decide +kernel
theorem dX4_appendWords_70 : decode cX4_appendWords 70 = .ok (.iconst 0, 1) := by decide +kernel
theorem dX4_appendWords_71 : decode cX4_appendWords 71 = .ok (.istore 4, 2) := by decide +kernel
theorem dX4_appendWords_73 : decode cX4_appendWords 73 = .ok (.iinc 5 1, 3) := by decide +kernel
theorem dX4_appendWords_76 : decode cX4_appendWords 76 = .ok (.goto (-70), 3) := by decide +kernel
theorem dX4_appendWords_79 : decode cX4_appendWords 79 = .ok (.return_, 1) := by decide +kernel
theorem dX4_appendRuns_0 : decode cX4_appendRuns 0 = .ok (.iconst 0, 1) := by decide +kernel
theorem dX4_appendRuns_1 : decode cX4_appendRuns 1 = .ok (.istore_n 2, 1) := by decide +kernel
theorem dX4_appendRuns_2 : decode cX4_appendRuns 2 = .ok (.iload_n 2, 1) := by decide +kernel
theorem dX4_appendRuns_3 : decode cX4_appendRuns 3 = .ok (.bipush 12, 2) := by decide +kernel
theorem dX4_appendRuns_5 : decode cX4_appendRuns 5 = .ok (.if_icmp .ge 44, 3) := by decide +kernel
theorem dX4_appendRuns_8 : decode cX4_appendRuns 8 = .ok (.iconst 0, 1) := by decide +kernel
theorem dX4_appendRuns_9 : decode cX4_appendRuns 9 = .ok (.istore_n 3, 1) := by decide +kernel
theorem dX4_appendRuns_10 : decode cX4_appendRuns 10 = .ok (.iload_n 3, 1) := by decide +kernel
theorem dX4_appendRuns_11 : decode cX4_appendRuns 11 = .ok (.bipush 12, 2) := by decide +kernel
theorem dX4_appendRuns_13 : decode cX4_appendRuns 13 = .ok (.if_icmp .ge 30, 3) := by decide +kernel
theorem dX4_appendRuns_16 : decode cX4_appendRuns 16 = .ok (.aload_n 1, 1) := by decide +kernel
theorem dX4_appendRuns_17 : decode cX4_appendRuns 17 = .ok (.iload_n 2, 1) := by decide +kernel
theorem dX4_appendRuns_18 : decode cX4_appendRuns 18 = .ok (.iload_n 3, 1) := by decide +kernel
theorem dX4_appendRuns_19 : decode cX4_appendRuns 19 = .ok (.invokevirtual 247, 3) := by decide +kernel
theorem dX4_appendRuns_22 : decode cX4_appendRuns 22 = .ok (.ifCond .eq 15, 3) := by decide +kernel
theorem dX4_appendRuns_25 : decode cX4_appendRuns 25 = .ok (.aload_n 0, 1) := by decide +kernel
theorem dX4_appendRuns_26 : decode cX4_appendRuns 26 = .ok (.iload_n 2, 1) := by decide +kernel
theorem dX4_appendRuns_27 : decode cX4_appendRuns 27 = .ok (.iload_n 3, 1) := by decide +kernel
theorem dX4_appendRuns_28 : decode cX4_appendRuns 28 = .ok (.aload_n 1, 1) := by decide +kernel
theorem dX4_appendRuns_29 : decode cX4_appendRuns 29 = .ok (.iload_n 2, 1) := by decide +kernel
theorem dX4_appendRuns_30 : decode cX4_appendRuns 30 = .ok (.iload_n 3, 1) := by decide +kernel
theorem dX4_appendRuns_31 : decode cX4_appendRuns 31 = .ok (.invokevirtual 250, 3) := by decide +kernel
theorem dX4_appendRuns_34 : decode cX4_appendRuns 34 = .ok (.invokestatic 253, 3) := by decide +kernel
theorem dX4_appendRuns_37 : decode cX4_appendRuns 37 = .ok (.iinc 3 1, 3) := by decide +kernel
theorem dX4_appendRuns_40 : decode cX4_appendRuns 40 = .ok (.goto (-30), 3) := by decide +kernel
theorem dX4_appendRuns_43 : decode cX4_appendRuns 43 = .ok (.iinc 2 1, 3) := by decide +kernel
theorem dX4_appendRuns_46 : decode cX4_appendRuns 46 = .ok (.goto (-44), 3) := by decide +kernel
theorem dX4_appendRuns_49 : decode cX4_appendRuns 49 = .ok (.return_, 1) := by decide +kernel
theorem dX4_appendRun_0 : decode cX4_appendRun 0 = .ok (.aload_n 0, 1) := by decide +kernel
theorem dX4_appendRun_1 : decode cX4_appendRun 1 = .ok (.bipush 32, 2) := by decide +kernel
theorem dX4_appendRun_3 : decode cX4_appendRun 3 = .ok (.invokevirtual 226, 3) := by decide +kernel
theorem dX4_appendRun_6 : decode cX4_appendRun 6 = .ok (.pop, 1) := by decide +kernel
theorem dX4_appendRun_7 : decode cX4_appendRun 7 = .ok (.aload_n 0, 1) := by decide +kernel
theorem dX4_appendRun_8 : decode cX4_appendRun 8 = .ok (.bipush 65, 2) := by decide +kernel
theorem dX4_appendRun_10 : decode cX4_appendRun 10 = .ok (.iload_n 1, 1) := by decide +kernel
theorem dX4_appendRun_11 : decode cX4_appendRun 11 = .ok (.iadd, 1) := by decide +kernel
theorem dX4_appendRun_12 : decode cX4_appendRun 12 = .ok (.i2c, 1) := by decide +kernel
theorem dX4_appendRun_13 : decode cX4_appendRun 13 = .ok (.invokevirtual 226, 3) := by decide +kernel
theorem dX4_appendRun_16 : decode cX4_appendRun 16 = .ok (.pop, 1) := by decide +kernel
theorem dX4_appendRun_17 : decode cX4_appendRun 17 = .ok (.aload_n 0, 1) := by decide +kernel
theorem dX4_appendRun_18 : decode cX4_appendRun 18 = .ok (.iload_n 2, 1) := by decide +kernel
theorem dX4_appendRun_19 : decode cX4_appendRun 19 = .ok (.iconst 1, 1) := by decide +kernel
theorem dX4_appendRun_20 : decode cX4_appendRun 20 = .ok (.iadd, 1) := by decide +kernel
theorem dX4_appendRun_21 : decode cX4_appendRun 21 = .ok (.invokevirtual 257, 3) := by decide +kernel
theorem dX4_appendRun_24 : decode cX4_appendRun 24 = .ok (.pop, 1) := by decide +kernel
theorem dX4_appendRun_25 : decode cX4_appendRun 25 = .ok (.iload_n 3, 1) := by decide +kernel
theorem dX4_appendRun_26 : decode cX4_appendRun 26 = .ok (.iload_n 2, 1) := by decide +kernel
theorem dX4_appendRun_27 : decode cX4_appendRun 27 = .ok (.if_icmp .le 18, 3) := by decide +kernel
theorem dX4_appendRun_30 : decode cX4_appendRun 30 = .ok (.aload_n 0, 1) := by decide +kernel
theorem dX4_appendRun_31 : decode cX4_appendRun 31 = .ok (.bipush 45, 2) := by decide +kernel
theorem dX4_appendRun_33 : decode cX4_appendRun 33 = .ok (.invokevirtual 226, 3) := by decide +kernel
theorem dX4_appendRun_36 : decode cX4_appendRun 36 = .ok (.pop, 1) := by decide +kernel
theorem dX4_appendRun_37 : decode cX4_appendRun 37 = .ok (.aload_n 0, 1) := by decide +kernel
theorem dX4_appendRun_38 : decode cX4_appendRun 38 = .ok (.iload_n 3, 1) := by decide +kernel
theorem dX4_appendRun_39 : decode cX4_appendRun 39 = .ok (.iconst 1, 1) := by decide +kernel
theorem dX4_appendRun_40 : decode cX4_appendRun 40 = .ok (.iadd, 1) := by decide +kernel
theorem dX4_appendRun_41 : decode cX4_appendRun 41 = .ok (.invokevirtual 257, 3) := by decide +kernel
theorem dX4_appendRun_44 : decode cX4_appendRun 44 = .ok (.pop, 1) := by decide +kernel
theorem dX4_appendRun_45 : decode cX4_appendRun 45 = .ok (.return_, 1) := by decide +kernel
